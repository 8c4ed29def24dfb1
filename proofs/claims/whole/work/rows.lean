section
-- ===== PART A: goes FIRST, ahead of the names: the tables' words, and 'selects' of the private methods out of them =====
/-- a private method of a class that the tables say can be made, by its rows of tables_1 -/
def lw_okq (q : MethodName × Nat) : Prop := (q.1.cls ≠ "java/lang/invoke/MethodHandle" ∧ q.1.cls ≠ "java/lang/invoke/VarHandle") ∧ Cond.instantiable q.1.cls q.2 ∈ tables_1 ∧ Cond.privateMethod q.1 ∈ tables_1 ∧ Cond.instanceMethod q.1 ∈ tables_1
theorem lw_p0 : lw_okq (⟨"MutableCells", "strandOf", "(I)LMutableCells$Strand;"⟩, 5) := ⟨⟨by decide +kernel, by decide +kernel⟩, List.mem_of_getElem? (i := 11) (by decide +kernel), List.mem_of_getElem? (i := 212) (by decide +kernel), List.mem_of_getElem? (i := 213) (by decide +kernel)⟩
theorem lw_p1 : lw_okq (⟨"MutableCells", "takeTurn", "(LMutableCells$Strand;)V"⟩, 5) := ⟨⟨by decide +kernel, by decide +kernel⟩, List.mem_of_getElem? (i := 11) (by decide +kernel), List.mem_of_getElem? (i := 243) (by decide +kernel), List.mem_of_getElem? (i := 244) (by decide +kernel)⟩
theorem lw_p2 : lw_okq (⟨"MutableCells", "perform", "(LMutableCells$Strand;)I"⟩, 5) := ⟨⟨by decide +kernel, by decide +kernel⟩, List.mem_of_getElem? (i := 11) (by decide +kernel), List.mem_of_getElem? (i := 247) (by decide +kernel), List.mem_of_getElem? (i := 248) (by decide +kernel)⟩
theorem lw_p3 : lw_okq (⟨"MutableCells", "getCell", "(LMutableCells$Strand;II)I"⟩, 5) := ⟨⟨by decide +kernel, by decide +kernel⟩, List.mem_of_getElem? (i := 11) (by decide +kernel), List.mem_of_getElem? (i := 254) (by decide +kernel), List.mem_of_getElem? (i := 255) (by decide +kernel)⟩
theorem lw_p4 : lw_okq (⟨"MutableCells", "failureOfReading", "(LMutableCells$Strand;I)I"⟩, 5) := ⟨⟨by decide +kernel, by decide +kernel⟩, List.mem_of_getElem? (i := 11) (by decide +kernel), List.mem_of_getElem? (i := 258) (by decide +kernel), List.mem_of_getElem? (i := 259) (by decide +kernel)⟩
theorem lw_p5 : lw_okq (⟨"MutableCells", "readCell", "(LMutableCells$Strand;I)I"⟩, 5) := ⟨⟨by decide +kernel, by decide +kernel⟩, List.mem_of_getElem? (i := 11) (by decide +kernel), List.mem_of_getElem? (i := 281) (by decide +kernel), List.mem_of_getElem? (i := 282) (by decide +kernel)⟩
theorem lw_p6 : lw_okq (⟨"MutableCells", "putCell", "(LMutableCells$Strand;II)V"⟩, 5) := ⟨⟨by decide +kernel, by decide +kernel⟩, List.mem_of_getElem? (i := 11) (by decide +kernel), List.mem_of_getElem? (i := 319) (by decide +kernel), List.mem_of_getElem? (i := 320) (by decide +kernel)⟩
theorem lw_p7 : lw_okq (⟨"MutableCells", "loadItem", "(LMutableCells$Strand;III)I"⟩, 5) := ⟨⟨by decide +kernel, by decide +kernel⟩, List.mem_of_getElem? (i := 11) (by decide +kernel), List.mem_of_getElem? (i := 328) (by decide +kernel), List.mem_of_getElem? (i := 329) (by decide +kernel)⟩
theorem lw_p8 : lw_okq (⟨"MutableCells", "swapCell", "(LMutableCells$Strand;III)I"⟩, 5) := ⟨⟨by decide +kernel, by decide +kernel⟩, List.mem_of_getElem? (i := 11) (by decide +kernel), List.mem_of_getElem? (i := 358) (by decide +kernel), List.mem_of_getElem? (i := 359) (by decide +kernel)⟩
theorem lw_p9 : lw_okq (⟨"MutableCells", "endAtom", "(LMutableCells$Strand;)I"⟩, 5) := ⟨⟨by decide +kernel, by decide +kernel⟩, List.mem_of_getElem? (i := 11) (by decide +kernel), List.mem_of_getElem? (i := 362) (by decide +kernel), List.mem_of_getElem? (i := 363) (by decide +kernel)⟩
theorem lw_p10 : lw_okq (⟨"MutableCells", "isOvertaken", "(LMutableCells$Atom;)Z"⟩, 5) := ⟨⟨by decide +kernel, by decide +kernel⟩, List.mem_of_getElem? (i := 11) (by decide +kernel), List.mem_of_getElem? (i := 366) (by decide +kernel), List.mem_of_getElem? (i := 367) (by decide +kernel)⟩
theorem lw_p11 : lw_okq (⟨"MutableCells$Strand", "divide", "(III)I"⟩, 15) := ⟨⟨by decide +kernel, by decide +kernel⟩, List.mem_of_getElem? (i := 93) (by decide +kernel), List.mem_of_getElem? (i := 413) (by decide +kernel), List.mem_of_getElem? (i := 414) (by decide +kernel)⟩
theorem lw_p12 : lw_okq (⟨"MutableCells$Strand", "beginAtom", "()I"⟩, 15) := ⟨⟨by decide +kernel, by decide +kernel⟩, List.mem_of_getElem? (i := 93) (by decide +kernel), List.mem_of_getElem? (i := 417) (by decide +kernel), List.mem_of_getElem? (i := 418) (by decide +kernel)⟩
theorem lw_p13 : lw_okq (⟨"MutableCells$Strand", "openTry", "(I)I"⟩, 15) := ⟨⟨by decide +kernel, by decide +kernel⟩, List.mem_of_getElem? (i := 93) (by decide +kernel), List.mem_of_getElem? (i := 421) (by decide +kernel), List.mem_of_getElem? (i := 422) (by decide +kernel)⟩
theorem lw_p14 : lw_okq (⟨"MutableCells$Strand", "closeTry", "()I"⟩, 15) := ⟨⟨by decide +kernel, by decide +kernel⟩, List.mem_of_getElem? (i := 93) (by decide +kernel), List.mem_of_getElem? (i := 425) (by decide +kernel), List.mem_of_getElem? (i := 426) (by decide +kernel)⟩
theorem lw_p15 : lw_okq (⟨"MutableCells", "drawn", "(I)LMutableCells$Strand;"⟩, 5) := ⟨⟨by decide +kernel, by decide +kernel⟩, List.mem_of_getElem? (i := 11) (by decide +kernel), List.mem_of_getElem? (i := 438) (by decide +kernel), List.mem_of_getElem? (i := 439) (by decide +kernel)⟩
def lw_privs_1 : List (MethodName × Nat) := [(⟨"MutableCells", "strandOf", "(I)LMutableCells$Strand;"⟩, 5), (⟨"MutableCells", "takeTurn", "(LMutableCells$Strand;)V"⟩, 5), (⟨"MutableCells", "perform", "(LMutableCells$Strand;)I"⟩, 5), (⟨"MutableCells", "getCell", "(LMutableCells$Strand;II)I"⟩, 5), (⟨"MutableCells", "failureOfReading", "(LMutableCells$Strand;I)I"⟩, 5), (⟨"MutableCells", "readCell", "(LMutableCells$Strand;I)I"⟩, 5), (⟨"MutableCells", "putCell", "(LMutableCells$Strand;II)V"⟩, 5), (⟨"MutableCells", "loadItem", "(LMutableCells$Strand;III)I"⟩, 5), (⟨"MutableCells", "swapCell", "(LMutableCells$Strand;III)I"⟩, 5), (⟨"MutableCells", "endAtom", "(LMutableCells$Strand;)I"⟩, 5), (⟨"MutableCells", "isOvertaken", "(LMutableCells$Atom;)Z"⟩, 5), (⟨"MutableCells$Strand", "divide", "(III)I"⟩, 15), (⟨"MutableCells$Strand", "beginAtom", "()I"⟩, 15), (⟨"MutableCells$Strand", "openTry", "(I)I"⟩, 15), (⟨"MutableCells$Strand", "closeTry", "()I"⟩, 15), (⟨"MutableCells", "drawn", "(I)LMutableCells$Strand;"⟩, 5)]
theorem lw_r1 : ∀ q ∈ lw_privs_1, lw_okq q := List.forall_mem_cons.mpr ⟨lw_p0, List.forall_mem_cons.mpr ⟨lw_p1, List.forall_mem_cons.mpr ⟨lw_p2, List.forall_mem_cons.mpr ⟨lw_p3, List.forall_mem_cons.mpr ⟨lw_p4, List.forall_mem_cons.mpr ⟨lw_p5, List.forall_mem_cons.mpr ⟨lw_p6, List.forall_mem_cons.mpr ⟨lw_p7, List.forall_mem_cons.mpr ⟨lw_p8, List.forall_mem_cons.mpr ⟨lw_p9, List.forall_mem_cons.mpr ⟨lw_p10, List.forall_mem_cons.mpr ⟨lw_p11, List.forall_mem_cons.mpr ⟨lw_p12, List.forall_mem_cons.mpr ⟨lw_p13, List.forall_mem_cons.mpr ⟨lw_p14, List.forall_mem_cons.mpr ⟨lw_p15, fun _ h => absurd h List.not_mem_nil⟩⟩⟩⟩⟩⟩⟩⟩⟩⟩⟩⟩⟩⟩⟩⟩
theorem lw_p16 : lw_okq (⟨"MutableCells", "goes", "(I)Z"⟩, 5) := ⟨⟨by decide +kernel, by decide +kernel⟩, List.mem_of_getElem? (i := 11) (by decide +kernel), List.mem_of_getElem? (i := 442) (by decide +kernel), List.mem_of_getElem? (i := 443) (by decide +kernel)⟩
theorem lw_p17 : lw_okq (⟨"MutableCells", "restart", "(Z)I"⟩, 5) := ⟨⟨by decide +kernel, by decide +kernel⟩, List.mem_of_getElem? (i := 11) (by decide +kernel), List.mem_of_getElem? (i := 497) (by decide +kernel), List.mem_of_getElem? (i := 498) (by decide +kernel)⟩
theorem lw_p18 : lw_okq (⟨"MutableCellsModel", "begin", "()V"⟩, 34) := ⟨⟨by decide +kernel, by decide +kernel⟩, List.mem_of_getElem? (i := 512) (by decide +kernel), List.mem_of_getElem? (i := 518) (by decide +kernel), List.mem_of_getElem? (i := 519) (by decide +kernel)⟩
theorem lw_p19 : lw_okq (⟨"MutableCellsModel", "stateOf", "(I)I"⟩, 34) := ⟨⟨by decide +kernel, by decide +kernel⟩, List.mem_of_getElem? (i := 512) (by decide +kernel), List.mem_of_getElem? (i := 648) (by decide +kernel), List.mem_of_getElem? (i := 649) (by decide +kernel)⟩
theorem lw_p20 : lw_okq (⟨"MutableCellsModel", "doTurn", "(I)V"⟩, 34) := ⟨⟨by decide +kernel, by decide +kernel⟩, List.mem_of_getElem? (i := 512) (by decide +kernel), List.mem_of_getElem? (i := 652) (by decide +kernel), List.mem_of_getElem? (i := 653) (by decide +kernel)⟩
theorem lw_p21 : lw_okq (⟨"MutableCellsModel", "doAct", "(I)I"⟩, 34) := ⟨⟨by decide +kernel, by decide +kernel⟩, List.mem_of_getElem? (i := 512) (by decide +kernel), List.mem_of_getElem? (i := 656) (by decide +kernel), List.mem_of_getElem? (i := 657) (by decide +kernel)⟩
theorem lw_p22 : lw_okq (⟨"MutableCellsModel", "give", "(III)V"⟩, 34) := ⟨⟨by decide +kernel, by decide +kernel⟩, List.mem_of_getElem? (i := 512) (by decide +kernel), List.mem_of_getElem? (i := 660) (by decide +kernel), List.mem_of_getElem? (i := 661) (by decide +kernel)⟩
theorem lw_p23 : lw_okq (⟨"MutableCellsModel", "read", "(II)I"⟩, 34) := ⟨⟨by decide +kernel, by decide +kernel⟩, List.mem_of_getElem? (i := 512) (by decide +kernel), List.mem_of_getElem? (i := 664) (by decide +kernel), List.mem_of_getElem? (i := 665) (by decide +kernel)⟩
theorem lw_p24 : lw_okq (⟨"MutableCellsModel", "readPlain", "(II)I"⟩, 34) := ⟨⟨by decide +kernel, by decide +kernel⟩, List.mem_of_getElem? (i := 512) (by decide +kernel), List.mem_of_getElem? (i := 668) (by decide +kernel), List.mem_of_getElem? (i := 669) (by decide +kernel)⟩
theorem lw_p25 : lw_okq (⟨"MutableCellsModel", "write", "(III)V"⟩, 34) := ⟨⟨by decide +kernel, by decide +kernel⟩, List.mem_of_getElem? (i := 512) (by decide +kernel), List.mem_of_getElem? (i := 672) (by decide +kernel), List.mem_of_getElem? (i := 673) (by decide +kernel)⟩
theorem lw_p26 : lw_okq (⟨"MutableCellsModel", "note", "(III)V"⟩, 34) := ⟨⟨by decide +kernel, by decide +kernel⟩, List.mem_of_getElem? (i := 512) (by decide +kernel), List.mem_of_getElem? (i := 676) (by decide +kernel), List.mem_of_getElem? (i := 677) (by decide +kernel)⟩
theorem lw_p27 : lw_okq (⟨"MutableCellsModel", "\x72", "(II)I"⟩, 34) := ⟨⟨by decide +kernel, by decide +kernel⟩, List.mem_of_getElem? (i := 512) (by decide +kernel), List.mem_of_getElem? (i := 680) (by decide +kernel), List.mem_of_getElem? (i := 681) (by decide +kernel)⟩
theorem lw_p28 : lw_okq (⟨"MutableCellsModel", "lay", "(III)V"⟩, 34) := ⟨⟨by decide +kernel, by decide +kernel⟩, List.mem_of_getElem? (i := 512) (by decide +kernel), List.mem_of_getElem? (i := 684) (by decide +kernel), List.mem_of_getElem? (i := 685) (by decide +kernel)⟩
theorem lw_p29 : lw_okq (⟨"MutableCellsModel", "compute", "(IIIII)V"⟩, 34) := ⟨⟨by decide +kernel, by decide +kernel⟩, List.mem_of_getElem? (i := 512) (by decide +kernel), List.mem_of_getElem? (i := 688) (by decide +kernel), List.mem_of_getElem? (i := 689) (by decide +kernel)⟩
theorem lw_p30 : lw_okq (⟨"MutableCellsModel", "swap", "(IIII)V"⟩, 34) := ⟨⟨by decide +kernel, by decide +kernel⟩, List.mem_of_getElem? (i := 512) (by decide +kernel), List.mem_of_getElem? (i := 692) (by decide +kernel), List.mem_of_getElem? (i := 693) (by decide +kernel)⟩
theorem lw_p31 : lw_okq (⟨"MutableCellsModel", "beginAtom", "(I)V"⟩, 34) := ⟨⟨by decide +kernel, by decide +kernel⟩, List.mem_of_getElem? (i := 512) (by decide +kernel), List.mem_of_getElem? (i := 696) (by decide +kernel), List.mem_of_getElem? (i := 697) (by decide +kernel)⟩
def lw_privs_2 : List (MethodName × Nat) := [(⟨"MutableCells", "goes", "(I)Z"⟩, 5), (⟨"MutableCells", "restart", "(Z)I"⟩, 5), (⟨"MutableCellsModel", "begin", "()V"⟩, 34), (⟨"MutableCellsModel", "stateOf", "(I)I"⟩, 34), (⟨"MutableCellsModel", "doTurn", "(I)V"⟩, 34), (⟨"MutableCellsModel", "doAct", "(I)I"⟩, 34), (⟨"MutableCellsModel", "give", "(III)V"⟩, 34), (⟨"MutableCellsModel", "read", "(II)I"⟩, 34), (⟨"MutableCellsModel", "readPlain", "(II)I"⟩, 34), (⟨"MutableCellsModel", "write", "(III)V"⟩, 34), (⟨"MutableCellsModel", "note", "(III)V"⟩, 34), (⟨"MutableCellsModel", "\x72", "(II)I"⟩, 34), (⟨"MutableCellsModel", "lay", "(III)V"⟩, 34), (⟨"MutableCellsModel", "compute", "(IIIII)V"⟩, 34), (⟨"MutableCellsModel", "swap", "(IIII)V"⟩, 34), (⟨"MutableCellsModel", "beginAtom", "(I)V"⟩, 34)]
theorem lw_r2 : ∀ q ∈ lw_privs_2, lw_okq q := List.forall_mem_cons.mpr ⟨lw_p16, List.forall_mem_cons.mpr ⟨lw_p17, List.forall_mem_cons.mpr ⟨lw_p18, List.forall_mem_cons.mpr ⟨lw_p19, List.forall_mem_cons.mpr ⟨lw_p20, List.forall_mem_cons.mpr ⟨lw_p21, List.forall_mem_cons.mpr ⟨lw_p22, List.forall_mem_cons.mpr ⟨lw_p23, List.forall_mem_cons.mpr ⟨lw_p24, List.forall_mem_cons.mpr ⟨lw_p25, List.forall_mem_cons.mpr ⟨lw_p26, List.forall_mem_cons.mpr ⟨lw_p27, List.forall_mem_cons.mpr ⟨lw_p28, List.forall_mem_cons.mpr ⟨lw_p29, List.forall_mem_cons.mpr ⟨lw_p30, List.forall_mem_cons.mpr ⟨lw_p31, fun _ h => absurd h List.not_mem_nil⟩⟩⟩⟩⟩⟩⟩⟩⟩⟩⟩⟩⟩⟩⟩⟩
theorem lw_p32 : lw_okq (⟨"MutableCellsModel", "clearAtom", "(I)V"⟩, 34) := ⟨⟨by decide +kernel, by decide +kernel⟩, List.mem_of_getElem? (i := 512) (by decide +kernel), List.mem_of_getElem? (i := 700) (by decide +kernel), List.mem_of_getElem? (i := 701) (by decide +kernel)⟩
theorem lw_p33 : lw_okq (⟨"MutableCellsModel", "endAtom", "(I)I"⟩, 34) := ⟨⟨by decide +kernel, by decide +kernel⟩, List.mem_of_getElem? (i := 512) (by decide +kernel), List.mem_of_getElem? (i := 704) (by decide +kernel), List.mem_of_getElem? (i := 705) (by decide +kernel)⟩
theorem lw_p34 : lw_okq (⟨"MutableCellsModel", "rows", "(IIIII)V"⟩, 34) := ⟨⟨by decide +kernel, by decide +kernel⟩, List.mem_of_getElem? (i := 512) (by decide +kernel), List.mem_of_getElem? (i := 708) (by decide +kernel), List.mem_of_getElem? (i := 709) (by decide +kernel)⟩
theorem lw_p35 : lw_okq (⟨"MutableCellsModel", "checkItem", "(II)V"⟩, 34) := ⟨⟨by decide +kernel, by decide +kernel⟩, List.mem_of_getElem? (i := 512) (by decide +kernel), List.mem_of_getElem? (i := 712) (by decide +kernel), List.mem_of_getElem? (i := 713) (by decide +kernel)⟩
theorem lw_p36 : lw_okq (⟨"MutableCellsModel", "fail", "(I)V"⟩, 34) := ⟨⟨by decide +kernel, by decide +kernel⟩, List.mem_of_getElem? (i := 512) (by decide +kernel), List.mem_of_getElem? (i := 716) (by decide +kernel), List.mem_of_getElem? (i := 717) (by decide +kernel)⟩
def lw_privs_3 : List (MethodName × Nat) := [(⟨"MutableCellsModel", "clearAtom", "(I)V"⟩, 34), (⟨"MutableCellsModel", "endAtom", "(I)I"⟩, 34), (⟨"MutableCellsModel", "rows", "(IIIII)V"⟩, 34), (⟨"MutableCellsModel", "checkItem", "(II)V"⟩, 34), (⟨"MutableCellsModel", "fail", "(I)V"⟩, 34)]
theorem lw_r3 : ∀ q ∈ lw_privs_3, lw_okq q := List.forall_mem_cons.mpr ⟨lw_p32, List.forall_mem_cons.mpr ⟨lw_p33, List.forall_mem_cons.mpr ⟨lw_p34, List.forall_mem_cons.mpr ⟨lw_p35, List.forall_mem_cons.mpr ⟨lw_p36, fun _ h => absurd h List.not_mem_nil⟩⟩⟩⟩⟩
def lw_privs : List (MethodName × Nat) := lw_privs_1 ++ (lw_privs_2 ++ (lw_privs_3))
def lw_tbl : List Cond := k2_sels lw_privs ++ tables_1
theorem lw_privs_ok : ∀ q ∈ lw_privs, lw_okq q := by
  show ∀ q ∈ lw_privs_1 ++ (lw_privs_2 ++ (lw_privs_3)), lw_okq q
  exact List.forall_mem_append.mpr ⟨lw_r1, List.forall_mem_append.mpr ⟨lw_r2, lw_r3⟩⟩
-- ===== end of PART A; then your names; then what follows =====
/-! ===== BEGIN words of one list among another's, by their places ===== -/
theorem goodIn_r {big : List Cond} (ws : List Cond) (ps : List Nat) (hp : ws = ps.filterMap (fun i => big[i]?)) (h : ws.all goodWord = true) : GoodIn big ws := by
  intro w hw
  have h1 := List.all_eq_true.mp h w hw
  rw [hp] at hw
  obtain ⟨i, -, hi⟩ := List.mem_filterMap.mp hw
  have hm : w ∈ big := by first | exact List.mem_of_getElem? hi | exact List.getElem?_mem hi
  exact ⟨hm, good_of_word h1⟩
theorem goodIn_app {big a b : List Cond} (ha : GoodIn big a) (hb : GoodIn big b) : GoodIn big (a ++ b) := fun w h => (List.mem_append.mp h).elim (ha w) (hb w)
theorem goodIn_ca {big a b : List Cond} {c : Cond} (ha : GoodIn big (c :: a)) (hb : GoodIn big b) : GoodIn big (c :: (a ++ b)) := fun w h => (List.mem_cons.mp h).elim (fun e => ha w (List.mem_cons.mpr (Or.inl e))) (fun h => (List.mem_append.mp h).elim (fun h => ha w (List.mem_cons.mpr (Or.inr h))) (hb w))
theorem goodIn_sub {big ws : List Cond} (hm : ∀ w ∈ ws, w ∈ big) (h : ws.all goodWord = true) : GoodIn big ws := fun w hw => ⟨hm w hw, good_of_word (List.all_eq_true.mp h w hw)⟩
/-! ===== END ===== -/

/-! ===== BEGIN printed: names, fields, word lists, decode rows ===== -/
def RX0 : String := "MutableCells$Atom"
def TX0 : u_T := fun k => match k with
  | 0 => ("MutableCells$Atom", "open", "Z", false)
  | 1 => ("MutableCells$Atom", "behindBegin", "I", false)
  | 2 => ("MutableCells$Atom", "trysAhead", "I", false)
  | 3 => ("MutableCells$Atom", "registers", "[I", true)
  | 4 => ("MutableCells$Atom", "putMarks", "[Z", true)
  | 5 => ("MutableCells$Atom", "putNumbers", "[I", true)
  | 6 => ("MutableCells$Atom", "readMarks", "[Z", true)
  | _ => ("MutableCells$Atom", "firstNumbers", "[I", true)
def tyX0 : Nat → FieldType := fun k => match k with
  | 0 => .boolean
  | 1 => .int
  | 2 => .int
  | 3 => .array .int
  | 4 => .array .boolean
  | 5 => .array .int
  | 6 => .array .boolean
  | _ => .array .int
abbrev wsX00 : List Cond := u_ws RX0 TX0 8
theorem nmX0 : ∀ a, a < 8 → ∀ b, b < 8 → a ≠ b → (TX0 a).2.1 ≠ (TX0 b).2.1 := by decide +kernel
theorem tyX0_ok : ∀ k, k < 8 → parseFieldDescriptor (TX0 k).2.2.1 = some (tyX0 k) := by decide +kernel
abbrev cX0_init : ByteArray := prog_2_method_1_code
def yX0_init : MethodName := ⟨RX0, "<init>", "()V"⟩
abbrev cX0_forget : ByteArray := prog_2_method_2_code
def yX0_forget : MethodName := ⟨RX0, "forget", "()V"⟩
abbrev cX0_hasPut : ByteArray := prog_2_method_3_code
def yX0_hasPut : MethodName := ⟨RX0, "hasPut", "(I)Z"⟩
abbrev cX0_putNumber : ByteArray := prog_2_method_4_code
def yX0_putNumber : MethodName := ⟨RX0, "putNumbe\x72", "(I)I"⟩
abbrev cX0_notePut : ByteArray := prog_2_method_5_code
def yX0_notePut : MethodName := ⟨RX0, "notePut", "(II)V"⟩
abbrev cX0_hasRead : ByteArray := prog_2_method_6_code
def yX0_hasRead : MethodName := ⟨RX0, "hasRead", "(I)Z"⟩
abbrev cX0_firstNumber : ByteArray := prog_2_method_7_code
def yX0_firstNumber : MethodName := ⟨RX0, "firstNumbe\x72", "(I)I"⟩
abbrev cX0_noteReading : ByteArray := prog_2_method_8_code
def yX0_noteReading : MethodName := ⟨RX0, "noteReading", "(II)V"⟩
def RX1 : String := "MutableCells$Cells"
def TX1 : u_T := fun k => match k with
  | 0 => ("MutableCells$Cells", "numbers", "[I", true)
  | 1 => ("MutableCells$Cells", "partners", "[I", true)
  | 2 => ("MutableCells$Cells", "trail", "[I", true)
  | _ => ("MutableCells$Cells", "log", "LMutableCells$Log;", true)
def tyX1 : Nat → FieldType := fun k => match k with
  | 0 => .array .int
  | 1 => .array .int
  | 2 => .array .int
  | _ => .object "MutableCells$Log"
abbrev wsX10 : List Cond := u_ws RX1 TX1 4
theorem nmX1 : ∀ a, a < 4 → ∀ b, b < 4 → a ≠ b → (TX1 a).2.1 ≠ (TX1 b).2.1 := by decide +kernel
theorem tyX1_ok : ∀ k, k < 4 → parseFieldDescriptor (TX1 k).2.2.1 = some (tyX1 k) := by decide +kernel
abbrev cX1_init : ByteArray := prog_3_method_1_code
def yX1_init : MethodName := ⟨RX1, "<init>", "()V"⟩
abbrev cX1_reset : ByteArray := prog_3_method_2_code
def yX1_reset : MethodName := ⟨RX1, "reset", "()V"⟩
abbrev cX1_isLazy : ByteArray := prog_3_method_3_code
def yX1_isLazy : MethodName := ⟨RX1, "isLazy", "(I)Z"⟩
abbrev cX1_shown : ByteArray := prog_3_method_4_code
def yX1_shown : MethodName := ⟨RX1, "shown", "(I)I"⟩
abbrev cX1_hold : ByteArray := prog_3_method_5_code
def yX1_hold : MethodName := ⟨RX1, "hold", "(II)V"⟩
abbrev cX1_defer : ByteArray := prog_3_method_6_code
def yX1_defer : MethodName := ⟨RX1, "defe\x72", "(II)V"⟩
abbrev cX1_count : ByteArray := prog_3_method_7_code
def yX1_count : MethodName := ⟨RX1, "count", "(III)V"⟩
abbrev cX1_leadsToRing : ByteArray := prog_3_method_8_code
def yX1_leadsToRing : MethodName := ⟨RX1, "leadsToRing", "(I)Z"⟩
abbrev cX1_workedOut : ByteArray := prog_3_method_9_code
def yX1_workedOut : MethodName := ⟨RX1, "workedOut", "(II)I"⟩
def RX2 : String := "MutableCells$Log"
def TX2 : u_T := fun k => match k with
  | 0 => ("MutableCells$Log", "threads", "[I", true)
  | 1 => ("MutableCells$Log", "places", "[I", true)
  | 2 => ("MutableCells$Log", "numbers", "[I", true)
  | 3 => ("MutableCells$Log", "latest", "I", false)
  | _ => ("MutableCells$Log", "count", "I", false)
def tyX2 : Nat → FieldType := fun k => match k with
  | 0 => .array .int
  | 1 => .array .int
  | 2 => .array .int
  | 3 => .int
  | _ => .int
abbrev wsX20 : List Cond := u_ws RX2 TX2 5
theorem nmX2 : ∀ a, a < 5 → ∀ b, b < 5 → a ≠ b → (TX2 a).2.1 ≠ (TX2 b).2.1 := by decide +kernel
theorem tyX2_ok : ∀ k, k < 5 → parseFieldDescriptor (TX2 k).2.2.1 = some (tyX2 k) := by decide +kernel
abbrev cX2_init : ByteArray := prog_4_method_1_code
def yX2_init : MethodName := ⟨RX2, "<init>", "()V"⟩
abbrev cX2_add : ByteArray := prog_4_method_2_code
def yX2_add : MethodName := ⟨RX2, "add", "(III)V"⟩
abbrev cX2_tell : ByteArray := prog_4_method_3_code
def yX2_tell : MethodName := ⟨RX2, "tell", "(II)I"⟩
def RX3 : String := "MutableCells$Rows"
def TX3 : u_T := fun k => match k with
  | 0 => ("MutableCells$Rows", "lengths", "[I", true)
  | 1 => ("MutableCells$Rows", "ices", "[Z", true)
  | _ => ("MutableCells$Rows", "items", "[I", true)
def tyX3 : Nat → FieldType := fun k => match k with
  | 0 => .array .int
  | 1 => .array .boolean
  | _ => .array .int
abbrev wsX30 : List Cond := u_ws RX3 TX3 3
theorem nmX3 : ∀ a, a < 3 → ∀ b, b < 3 → a ≠ b → (TX3 a).2.1 ≠ (TX3 b).2.1 := by decide +kernel
theorem tyX3_ok : ∀ k, k < 3 → parseFieldDescriptor (TX3 k).2.2.1 = some (tyX3 k) := by decide +kernel
abbrev cX3_init : ByteArray := prog_5_method_1_code
def yX3_init : MethodName := ⟨RX3, "<init>", "()V"⟩
abbrev cX3_reset : ByteArray := prog_5_method_2_code
def yX3_reset : MethodName := ⟨RX3, "reset", "()V"⟩
abbrev cX3_length : ByteArray := prog_5_method_3_code
def yX3_length : MethodName := ⟨RX3, "length", "(I)I"⟩
abbrev cX3_isFrozen : ByteArray := prog_5_method_4_code
def yX3_isFrozen : MethodName := ⟨RX3, "isFrozen", "(I)Z"⟩
abbrev cX3_hasItem : ByteArray := prog_5_method_5_code
def yX3_hasItem : MethodName := ⟨RX3, "hasItem", "(II)Z"⟩
abbrev cX3_itemOf : ByteArray := prog_5_method_6_code
def yX3_itemOf : MethodName := ⟨RX3, "itemOf", "(II)I"⟩
abbrev cX3_failureAt : ByteArray := prog_5_method_7_code
def yX3_failureAt : MethodName := ⟨RX3, "failureAt", "(II)I"⟩
abbrev cX3_store : ByteArray := prog_5_method_8_code
def yX3_store : MethodName := ⟨RX3, "store", "(III)I"⟩
abbrev cX3_make : ByteArray := prog_5_method_9_code
def yX3_make : MethodName := ⟨RX3, "make", "(II)I"⟩
abbrev cX3_freeze : ByteArray := prog_5_method_10_code
def yX3_freeze : MethodName := ⟨RX3, "freeze", "(I)I"⟩
def RX4 : String := "MutableCells$Strand"
def TX4 : u_T := fun k => match k with
  | 0 => ("MutableCells$Strand", "numbe\x72", "I", true)
  | 1 => ("MutableCells$Strand", "kinds", "[I", true)
  | 2 => ("MutableCells$Strand", "xs", "[I", true)
  | 3 => ("MutableCells$Strand", "ys", "[I", true)
  | 4 => ("MutableCells$Strand", "zs", "[I", true)
  | 5 => ("MutableCells$Strand", "acts", "I", false)
  | 6 => ("MutableCells$Strand", "registers", "[I", true)
  | 7 => ("MutableCells$Strand", "tryPlaces", "[I", true)
  | 8 => ("MutableCells$Strand", "trys", "I", false)
  | 9 => ("MutableCells$Strand", "atom", "LMutableCells$Atom;", true)
  | 10 => ("MutableCells$Strand", "place", "I", false)
  | 11 => ("MutableCells$Strand", "next", "I", false)
  | 12 => ("MutableCells$Strand", "failure", "I", false)
  | 13 => ("MutableCells$Strand", "turns", "I", false)
  | _ => ("MutableCells$Strand", "anews", "I", false)
def tyX4 : Nat → FieldType := fun k => match k with
  | 0 => .int
  | 1 => .array .int
  | 2 => .array .int
  | 3 => .array .int
  | 4 => .array .int
  | 5 => .int
  | 6 => .array .int
  | 7 => .array .int
  | 8 => .int
  | 9 => .object "MutableCells$Atom"
  | 10 => .int
  | 11 => .int
  | 12 => .int
  | 13 => .int
  | _ => .int
abbrev wsX40 : List Cond := u_ws RX4 TX4 15
theorem nmX4 : ∀ a, a < 15 → ∀ b, b < 15 → a ≠ b → (TX4 a).2.1 ≠ (TX4 b).2.1 := by decide +kernel
theorem tyX4_ok : ∀ k, k < 15 → parseFieldDescriptor (TX4 k).2.2.1 = some (tyX4 k) := by decide +kernel
abbrev cX4_init : ByteArray := prog_6_method_1_code
def yX4_init : MethodName := ⟨RX4, "<init>", "(I)V"⟩
abbrev cX4_reset : ByteArray := prog_6_method_2_code
def yX4_reset : MethodName := ⟨RX4, "reset", "(Z)V"⟩
abbrev cX4_append : ByteArray := prog_6_method_3_code
def yX4_append : MethodName := ⟨RX4, "append", "(IIII)Z"⟩
abbrev cX4_state : ByteArray := prog_6_method_4_code
def yX4_state : MethodName := ⟨RX4, "state", "()I"⟩
abbrev cX4_held : ByteArray := prog_6_method_5_code
def yX4_held : MethodName := ⟨RX4, "held", "(I)I"⟩
abbrev cX4_keep : ByteArray := prog_6_method_6_code
def yX4_keep : MethodName := ⟨RX4, "keep", "(II)V"⟩
abbrev cX4_performAlone : ByteArray := prog_6_method_7_code
def yX4_performAlone : MethodName := ⟨RX4, "performAlone", "(IIII)I"⟩
abbrev cX4_divide : ByteArray := prog_6_method_8_code
def yX4_divide : MethodName := ⟨RX4, "divide", "(III)I"⟩
abbrev cX4_openTry : ByteArray := prog_6_method_9_code
def yX4_openTry : MethodName := ⟨RX4, "openTry", "(I)I"⟩
abbrev cX4_closeTry : ByteArray := prog_6_method_10_code
def yX4_closeTry : MethodName := ⟨RX4, "closeTry", "()I"⟩
abbrev cX4_beginAtom : ByteArray := prog_6_method_11_code
def yX4_beginAtom : MethodName := ⟨RX4, "beginAtom", "()I"⟩
abbrev cX4_beginAnew : ByteArray := prog_6_method_12_code
def yX4_beginAnew : MethodName := ⟨RX4, "beginAnew", "()V"⟩
abbrev cX4_fail : ByteArray := prog_6_method_13_code
def yX4_fail : MethodName := ⟨RX4, "fail", "(I)V"⟩
def RX5 : String := "MutableCells"
def TX5 : u_T := fun k => match k with
  | 0 => ("MutableCells", "cells", "LMutableCells$Cells;", true)
  | 1 => ("MutableCells", "rows", "LMutableCells$Rows;", true)
  | 2 => ("MutableCells", "strands", "[LMutableCells$Strand;", true)
  | 3 => ("MutableCells", "turnsDone", "I", false)
  | _ => ("MutableCells", "failures", "I", false)
def tyX5 : Nat → FieldType := fun k => match k with
  | 0 => .object "MutableCells$Cells"
  | 1 => .object "MutableCells$Rows"
  | 2 => .array (.object "MutableCells$Strand")
  | 3 => .int
  | _ => .int
abbrev wsX50 : List Cond := u_ws RX5 TX5 5
theorem nmX5 : ∀ a, a < 5 → ∀ b, b < 5 → a ≠ b → (TX5 a).2.1 ≠ (TX5 b).2.1 := by decide +kernel
theorem tyX5_ok : ∀ k, k < 5 → parseFieldDescriptor (TX5 k).2.2.1 = some (tyX5 k) := by decide +kernel
abbrev cX5_init : ByteArray := prog_1_method_1_code
def yX5_init : MethodName := ⟨RX5, "<init>", "()V"⟩
abbrev cX5_act : ByteArray := prog_1_method_2_code
def yX5_act : MethodName := ⟨RX5, "act", "(IIIII)I"⟩
abbrev cX5_turn : ByteArray := prog_1_method_3_code
def yX5_turn : MethodName := ⟨RX5, "turn", "(I)I"⟩
abbrev cX5_play : ByteArray := prog_1_method_4_code
def yX5_play : MethodName := ⟨RX5, "play", "(II)I"⟩
abbrev cX5_told : ByteArray := prog_1_method_5_code
def yX5_told : MethodName := ⟨RX5, "told", "(II)I"⟩
abbrev cX5_register : ByteArray := prog_1_method_6_code
def yX5_register : MethodName := ⟨RX5, "registe\x72", "(II)I"⟩
abbrev cX5_cell : ByteArray := prog_1_method_7_code
def yX5_cell : MethodName := ⟨RX5, "cell", "(I)I"⟩
abbrev cX5_lazy : ByteArray := prog_1_method_8_code
def yX5_lazy : MethodName := ⟨RX5, "lazy", "(I)I"⟩
abbrev cX5_size : ByteArray := prog_1_method_9_code
def yX5_size : MethodName := ⟨RX5, "size", "(I)I"⟩
abbrev cX5_item : ByteArray := prog_1_method_10_code
def yX5_item : MethodName := ⟨RX5, "item", "(II)I"⟩
abbrev cX5_frozen : ByteArray := prog_1_method_11_code
def yX5_frozen : MethodName := ⟨RX5, "frozen", "(I)I"⟩
abbrev cX5_put : ByteArray := prog_1_method_12_code
def yX5_put : MethodName := ⟨RX5, "put", "(II)I"⟩
abbrev cX5_writes : ByteArray := prog_1_method_13_code
def yX5_writes : MethodName := ⟨RX5, "writes", "()I"⟩
abbrev cX5_write : ByteArray := prog_1_method_14_code
def yX5_write : MethodName := ⟨RX5, "write", "(II)I"⟩
abbrev cX5_again : ByteArray := prog_1_method_15_code
def yX5_again : MethodName := ⟨RX5, "again", "()I"⟩
abbrev cX5_clear : ByteArray := prog_1_method_16_code
def yX5_clear : MethodName := ⟨RX5, "clea\x72", "()I"⟩
abbrev cX5_restart : ByteArray := prog_1_method_17_code
def yX5_restart : MethodName := ⟨RX5, "restart", "(Z)I"⟩
abbrev cX5_strandOf : ByteArray := prog_1_method_18_code
def yX5_strandOf : MethodName := ⟨RX5, "strandOf", "(I)LMutableCells$Strand;"⟩
abbrev cX5_isRegister : ByteArray := prog_1_method_19_code
def yX5_isRegister : MethodName := ⟨RX5, "isRegiste\x72", "(I)Z"⟩
abbrev cX5_isCell : ByteArray := prog_1_method_20_code
def yX5_isCell : MethodName := ⟨RX5, "isCell", "(I)Z"⟩
abbrev cX5_isRow : ByteArray := prog_1_method_21_code
def yX5_isRow : MethodName := ⟨RX5, "isRow", "(I)Z"⟩
abbrev cX5_isPlace : ByteArray := prog_1_method_22_code
def yX5_isPlace : MethodName := ⟨RX5, "isPlace", "(I)Z"⟩
abbrev cX5_mayBe : ByteArray := prog_1_method_23_code
def yX5_mayBe : MethodName := ⟨RX5, "mayBe", "(IIII)Z"⟩
abbrev cX5_drawn : ByteArray := prog_1_method_24_code
def yX5_drawn : MethodName := ⟨RX5, "drawn", "(I)LMutableCells$Strand;"⟩
abbrev cX5_goes : ByteArray := prog_1_method_25_code
def yX5_goes : MethodName := ⟨RX5, "goes", "(I)Z"⟩
abbrev cX5_takeTurn : ByteArray := prog_1_method_26_code
def yX5_takeTurn : MethodName := ⟨RX5, "takeTurn", "(LMutableCells$Strand;)V"⟩
abbrev cX5_perform : ByteArray := prog_1_method_27_code
def yX5_perform : MethodName := ⟨RX5, "perform", "(LMutableCells$Strand;)I"⟩
abbrev cX5_isBarredFromAtoms : ByteArray := prog_1_method_28_code
def yX5_isBarredFromAtoms : MethodName := ⟨RX5, "isBarredFromAtoms", "(I)Z"⟩
abbrev cX5_loadItem : ByteArray := prog_1_method_29_code
def yX5_loadItem : MethodName := ⟨RX5, "loadItem", "(LMutableCells$Strand;III)I"⟩
abbrev cX5_getCell : ByteArray := prog_1_method_30_code
def yX5_getCell : MethodName := ⟨RX5, "getCell", "(LMutableCells$Strand;II)I"⟩
abbrev cX5_swapCell : ByteArray := prog_1_method_31_code
def yX5_swapCell : MethodName := ⟨RX5, "swapCell", "(LMutableCells$Strand;III)I"⟩
abbrev cX5_failureOfReading : ByteArray := prog_1_method_32_code
def yX5_failureOfReading : MethodName := ⟨RX5, "failureOfReading", "(LMutableCells$Strand;I)I"⟩
abbrev cX5_readCell : ByteArray := prog_1_method_33_code
def yX5_readCell : MethodName := ⟨RX5, "readCell", "(LMutableCells$Strand;I)I"⟩
abbrev cX5_putCell : ByteArray := prog_1_method_34_code
def yX5_putCell : MethodName := ⟨RX5, "putCell", "(LMutableCells$Strand;II)V"⟩
abbrev cX5_endAtom : ByteArray := prog_1_method_35_code
def yX5_endAtom : MethodName := ⟨RX5, "endAtom", "(LMutableCells$Strand;)I"⟩
abbrev cX5_isOvertaken : ByteArray := prog_1_method_36_code
def yX5_isOvertaken : MethodName := ⟨RX5, "isOvertaken", "(LMutableCells$Atom;)Z"⟩
def RX6 : String := "MutableCellsModel"
def TX6 : u_T := fun k => match k with
  | 0 => ("MutableCellsModel", "failures", "I", false)
  | 1 => ("MutableCellsModel", "cells", "[I", true)
  | 2 => ("MutableCellsModel", "isLazy", "[Z", true)
  | 3 => ("MutableCellsModel", "isRead", "[Z", true)
  | 4 => ("MutableCellsModel", "sizes", "[I", true)
  | 5 => ("MutableCellsModel", "items", "[I", true)
  | 6 => ("MutableCellsModel", "isFrozen", "[Z", true)
  | 7 => ("MutableCellsModel", "many", "[I", true)
  | 8 => ("MutableCellsModel", "kind", "[I", true)
  | 9 => ("MutableCellsModel", "actX", "[I", true)
  | 10 => ("MutableCellsModel", "actY", "[I", true)
  | 11 => ("MutableCellsModel", "actZ", "[I", true)
  | 12 => ("MutableCellsModel", "registers", "[I", true)
  | 13 => ("MutableCellsModel", "place", "[I", true)
  | 14 => ("MutableCellsModel", "failedBy", "[I", true)
  | 15 => ("MutableCellsModel", "hasFailed", "[Z", true)
  | 16 => ("MutableCellsModel", "turns", "[I", true)
  | 17 => ("MutableCellsModel", "anew", "[I", true)
  | 18 => ("MutableCellsModel", "tries", "[I", true)
  | 19 => ("MutableCellsModel", "tryPlace", "[I", true)
  | 20 => ("MutableCellsModel", "isAtom", "[Z", true)
  | 21 => ("MutableCellsModel", "atomTries", "[I", true)
  | 22 => ("MutableCellsModel", "atomPlace", "[I", true)
  | 23 => ("MutableCellsModel", "atomRegisters", "[I", true)
  | 24 => ("MutableCellsModel", "wasRead", "[Z", true)
  | 25 => ("MutableCellsModel", "firstRead", "[I", true)
  | 26 => ("MutableCellsModel", "wasPut", "[Z", true)
  | 27 => ("MutableCellsModel", "putThere", "[I", true)
  | 28 => ("MutableCellsModel", "writes", "I", false)
  | 29 => ("MutableCellsModel", "writeThread", "[I", true)
  | 30 => ("MutableCellsModel", "writeCell", "[I", true)
  | 31 => ("MutableCellsModel", "writeNumbe\x72", "[I", true)
  | 32 => ("MutableCellsModel", "failure", "I", false)
  | _ => ("MutableCellsModel", "chain", "[I", true)
def tyX6 : Nat → FieldType := fun k => match k with
  | 0 => .int
  | 1 => .array .int
  | 2 => .array .boolean
  | 3 => .array .boolean
  | 4 => .array .int
  | 5 => .array .int
  | 6 => .array .boolean
  | 7 => .array .int
  | 8 => .array .int
  | 9 => .array .int
  | 10 => .array .int
  | 11 => .array .int
  | 12 => .array .int
  | 13 => .array .int
  | 14 => .array .int
  | 15 => .array .boolean
  | 16 => .array .int
  | 17 => .array .int
  | 18 => .array .int
  | 19 => .array .int
  | 20 => .array .boolean
  | 21 => .array .int
  | 22 => .array .int
  | 23 => .array .int
  | 24 => .array .boolean
  | 25 => .array .int
  | 26 => .array .boolean
  | 27 => .array .int
  | 28 => .int
  | 29 => .array .int
  | 30 => .array .int
  | 31 => .array .int
  | 32 => .int
  | _ => .array .int
abbrev wsX60 : List Cond := u_ws RX6 TX6 34
theorem nmX6 : ∀ a, a < 34 → ∀ b, b < 34 → a ≠ b → (TX6 a).2.1 ≠ (TX6 b).2.1 := by decide +kernel
theorem tyX6_ok : ∀ k, k < 34 → parseFieldDescriptor (TX6 k).2.2.1 = some (tyX6 k) := by decide +kernel
abbrev cX6_init : ByteArray := prog_8_method_1_code
def yX6_init : MethodName := ⟨RX6, "<init>", "()V"⟩
abbrev cX6_within : ByteArray := prog_8_method_3_code
def yX6_within : MethodName := ⟨RX6, "within", "(III)Z"⟩
abbrev cX6_begin : ByteArray := prog_8_method_4_code
def yX6_begin : MethodName := ⟨RX6, "begin", "()V"⟩
abbrev cX6_isRegister : ByteArray := prog_8_method_5_code
def yX6_isRegister : MethodName := ⟨RX6, "isRegiste\x72", "(I)Z"⟩
abbrev cX6_isCell : ByteArray := prog_8_method_6_code
def yX6_isCell : MethodName := ⟨RX6, "isCell", "(I)Z"⟩
abbrev cX6_isPlaceIn : ByteArray := prog_8_method_7_code
def yX6_isPlaceIn : MethodName := ⟨RX6, "isPlaceIn", "(I)Z"⟩
abbrev cX6_fits : ByteArray := prog_8_method_8_code
def yX6_fits : MethodName := ⟨RX6, "fits", "(IIII)Z"⟩
abbrev cX6_act : ByteArray := prog_8_method_9_code
def yX6_act : MethodName := ⟨RX6, "act", "(IIIII)I"⟩
abbrev cX6_stateOf : ByteArray := prog_8_method_10_code
def yX6_stateOf : MethodName := ⟨RX6, "stateOf", "(I)I"⟩
abbrev cX6_note : ByteArray := prog_8_method_11_code
def yX6_note : MethodName := ⟨RX6, "note", "(III)V"⟩
abbrev cX6_write : ByteArray := prog_8_method_12_code
def yX6_write : MethodName := ⟨RX6, "write", "(III)V"⟩
abbrev cX6_readPlain : ByteArray := prog_8_method_13_code
def yX6_readPlain : MethodName := ⟨RX6, "readPlain", "(II)I"⟩
abbrev cX6_read : ByteArray := prog_8_method_14_code
def yX6_read : MethodName := ⟨RX6, "read", "(II)I"⟩
abbrev cX6_lay : ByteArray := prog_8_method_15_code
def yX6_lay : MethodName := ⟨RX6, "lay", "(III)V"⟩
abbrev cX6_clearAtom : ByteArray := prog_8_method_16_code
def yX6_clearAtom : MethodName := ⟨RX6, "clearAtom", "(I)V"⟩
abbrev cX6_beginAtom : ByteArray := prog_8_method_17_code
def yX6_beginAtom : MethodName := ⟨RX6, "beginAtom", "(I)V"⟩
abbrev cX6_endAtom : ByteArray := prog_8_method_18_code
def yX6_endAtom : MethodName := ⟨RX6, "endAtom", "(I)I"⟩
abbrev cX6_r : ByteArray := prog_8_method_19_code
def yX6_r : MethodName := ⟨RX6, "\x72", "(II)I"⟩
abbrev cX6_give : ByteArray := prog_8_method_20_code
def yX6_give : MethodName := ⟨RX6, "give", "(III)V"⟩
abbrev cX6_checkItem : ByteArray := prog_8_method_21_code
def yX6_checkItem : MethodName := ⟨RX6, "checkItem", "(II)V"⟩
abbrev cX6_compute : ByteArray := prog_8_method_22_code
def yX6_compute : MethodName := ⟨RX6, "compute", "(IIIII)V"⟩
abbrev cX6_swap : ByteArray := prog_8_method_23_code
def yX6_swap : MethodName := ⟨RX6, "swap", "(IIII)V"⟩
abbrev cX6_rows : ByteArray := prog_8_method_24_code
def yX6_rows : MethodName := ⟨RX6, "rows", "(IIIII)V"⟩
abbrev cX6_doAct : ByteArray := prog_8_method_25_code
def yX6_doAct : MethodName := ⟨RX6, "doAct", "(I)I"⟩
abbrev cX6_fail : ByteArray := prog_8_method_26_code
def yX6_fail : MethodName := ⟨RX6, "fail", "(I)V"⟩
abbrev cX6_doTurn : ByteArray := prog_8_method_27_code
def yX6_doTurn : MethodName := ⟨RX6, "doTurn", "(I)V"⟩
abbrev cX6_turn : ByteArray := prog_8_method_28_code
def yX6_turn : MethodName := ⟨RX6, "turn", "(I)I"⟩
abbrev cX6_play : ByteArray := prog_8_method_29_code
def yX6_play : MethodName := ⟨RX6, "play", "(II)I"⟩
abbrev cX6_told : ByteArray := prog_8_method_30_code
def yX6_told : MethodName := ⟨RX6, "told", "(II)I"⟩
abbrev cX6_register : ByteArray := prog_8_method_31_code
def yX6_register : MethodName := ⟨RX6, "registe\x72", "(II)I"⟩
abbrev cX6_cell : ByteArray := prog_8_method_32_code
def yX6_cell : MethodName := ⟨RX6, "cell", "(I)I"⟩
abbrev cX6_lazy : ByteArray := prog_8_method_33_code
def yX6_lazy : MethodName := ⟨RX6, "lazy", "(I)I"⟩
abbrev cX6_size : ByteArray := prog_8_method_34_code
def yX6_size : MethodName := ⟨RX6, "size", "(I)I"⟩
abbrev cX6_item : ByteArray := prog_8_method_35_code
def yX6_item : MethodName := ⟨RX6, "item", "(II)I"⟩
abbrev cX6_frozen : ByteArray := prog_8_method_36_code
def yX6_frozen : MethodName := ⟨RX6, "frozen", "(I)I"⟩
abbrev cX6_put : ByteArray := prog_8_method_37_code
def yX6_put : MethodName := ⟨RX6, "put", "(II)I"⟩
abbrev cX6_writes : ByteArray := prog_8_method_38_code
def yX6_writes : MethodName := ⟨RX6, "writes", "()I"⟩
abbrev cX6_write_ : ByteArray := prog_8_method_39_code
def yX6_write_ : MethodName := ⟨RX6, "write", "(II)I"⟩
abbrev cX6_again : ByteArray := prog_8_method_40_code
def yX6_again : MethodName := ⟨RX6, "again", "()I"⟩
abbrev cX6_clear : ByteArray := prog_8_method_41_code
def yX6_clear : MethodName := ⟨RX6, "clea\x72", "()I"⟩
def RJ10 : String := "java/lang/System"
def TJ10 : u_T := fun k => match k with
  | _ => ("", "", "", false)
def tyJ10 : Nat → FieldType := fun k => match k with
  | _ => .int
abbrev wsJ100 : List Cond := u_ws RJ10 TJ10 0
theorem nmJ10 : ∀ a, a < 0 → ∀ b, b < 0 → a ≠ b → (TJ10 a).2.1 ≠ (TJ10 b).2.1 := by decide +kernel
theorem tyJ10_ok : ∀ k, k < 0 → parseFieldDescriptor (TJ10 k).2.2.1 = some (tyJ10 k) := by decide +kernel
def RJ7 : String := "java/util/Arrays"
def TJ7 : u_T := fun k => match k with
  | _ => ("", "", "", false)
def tyJ7 : Nat → FieldType := fun k => match k with
  | _ => .int
abbrev wsJ70 : List Cond := u_ws RJ7 TJ7 0
theorem nmJ7 : ∀ a, a < 0 → ∀ b, b < 0 → a ≠ b → (TJ7 a).2.1 ≠ (TJ7 b).2.1 := by decide +kernel
theorem tyJ7_ok : ∀ k, k < 0 → parseFieldDescriptor (TJ7 k).2.2.1 = some (tyJ7 k) := by decide +kernel
abbrev cJ7_rangeCheck_23922 : ByteArray := prog_10_method_30_code
def yJ7_rangeCheck_23922 : MethodName := ⟨RJ7, "rangeCheck", "(III)V"⟩
abbrev cJ7_fill_53178 : ByteArray := prog_10_method_103_code
def yJ7_fill_53178 : MethodName := ⟨RJ7, "fill", "([II)V"⟩
abbrev cJ7_fill_fda19 : ByteArray := prog_10_method_104_code
def yJ7_fill_fda19 : MethodName := ⟨RJ7, "fill", "([IIII)V"⟩
def RL : String := "MutableCellsLaw"
abbrev cL_law : ByteArray := code
def yL_law : MethodName := ⟨RL, "law", "([I)Z"⟩
abbrev vwCl : List vw_C := [(RX0, TX0, 8), (RX1, TX1, 4), (RX2, TX2, 5), (RX3, TX3, 3), (RX4, TX4, 15), (RX5, TX5, 5), (RX6, TX6, 34)]
end
section
theorem lw_TB_of {w : Cond} (h : w ∈ lw_tbl) (hg : goodWord w = true) : w ∈ lw_tbl.filter goodWord := List.mem_filter.mpr ⟨h, hg⟩
def lw_TB : List Cond := lw_tbl.filter goodWord
theorem lw_inT {w : Cond} (h : w ∈ lw_tbl) (hg : goodWord w = true) : w ∈ lw_TB := lw_TB_of h hg
theorem lw_TB_in {w : Cond} (h : w ∈ lw_TB) : w ∈ lw_tbl := (List.mem_filter.mp h).1
theorem lw_TB_good {w : Cond} (h : w ∈ lw_TB) : goodWord w = true := (List.mem_filter.mp h).2
set_option maxRecDepth 20000 in
theorem wd_se_yX5_strandOf : Cond.selects RX5 yX5_strandOf yX5_strandOf ∈ lw_TB := lw_inT (List.mem_of_getElem? (i := 0) (by rfl)) (by rfl)
set_option maxRecDepth 20000 in
theorem wd_se_yX5_takeTurn : Cond.selects RX5 yX5_takeTurn yX5_takeTurn ∈ lw_TB := lw_inT (List.mem_of_getElem? (i := 1) (by rfl)) (by rfl)
set_option maxRecDepth 20000 in
theorem wd_se_yX5_perform : Cond.selects RX5 yX5_perform yX5_perform ∈ lw_TB := lw_inT (List.mem_of_getElem? (i := 2) (by rfl)) (by rfl)
set_option maxRecDepth 20000 in
theorem wd_se_yX5_getCell : Cond.selects RX5 yX5_getCell yX5_getCell ∈ lw_TB := lw_inT (List.mem_of_getElem? (i := 3) (by rfl)) (by rfl)
set_option maxRecDepth 20000 in
theorem wd_se_yX5_failureOfReading : Cond.selects RX5 yX5_failureOfReading yX5_failureOfReading ∈ lw_TB := lw_inT (List.mem_of_getElem? (i := 4) (by rfl)) (by rfl)
set_option maxRecDepth 20000 in
theorem wd_se_yX5_readCell : Cond.selects RX5 yX5_readCell yX5_readCell ∈ lw_TB := lw_inT (List.mem_of_getElem? (i := 5) (by rfl)) (by rfl)
set_option maxRecDepth 20000 in
theorem wd_se_yX5_putCell : Cond.selects RX5 yX5_putCell yX5_putCell ∈ lw_TB := lw_inT (List.mem_of_getElem? (i := 6) (by rfl)) (by rfl)
set_option maxRecDepth 20000 in
theorem wd_se_yX5_loadItem : Cond.selects RX5 yX5_loadItem yX5_loadItem ∈ lw_TB := lw_inT (List.mem_of_getElem? (i := 7) (by rfl)) (by rfl)
set_option maxRecDepth 20000 in
theorem wd_se_yX5_swapCell : Cond.selects RX5 yX5_swapCell yX5_swapCell ∈ lw_TB := lw_inT (List.mem_of_getElem? (i := 8) (by rfl)) (by rfl)
set_option maxRecDepth 20000 in
theorem wd_se_yX5_endAtom : Cond.selects RX5 yX5_endAtom yX5_endAtom ∈ lw_TB := lw_inT (List.mem_of_getElem? (i := 9) (by rfl)) (by rfl)
set_option maxRecDepth 20000 in
theorem wd_se_yX5_isOvertaken : Cond.selects RX5 yX5_isOvertaken yX5_isOvertaken ∈ lw_TB := lw_inT (List.mem_of_getElem? (i := 10) (by rfl)) (by rfl)
set_option maxRecDepth 20000 in
theorem wd_se_yX4_divide : Cond.selects RX4 yX4_divide yX4_divide ∈ lw_TB := lw_inT (List.mem_of_getElem? (i := 11) (by rfl)) (by rfl)
set_option maxRecDepth 20000 in
theorem wd_se_yX4_beginAtom : Cond.selects RX4 yX4_beginAtom yX4_beginAtom ∈ lw_TB := lw_inT (List.mem_of_getElem? (i := 12) (by rfl)) (by rfl)
set_option maxRecDepth 20000 in
theorem wd_se_yX4_openTry : Cond.selects RX4 yX4_openTry yX4_openTry ∈ lw_TB := lw_inT (List.mem_of_getElem? (i := 13) (by rfl)) (by rfl)
set_option maxRecDepth 20000 in
theorem wd_se_yX4_closeTry : Cond.selects RX4 yX4_closeTry yX4_closeTry ∈ lw_TB := lw_inT (List.mem_of_getElem? (i := 14) (by rfl)) (by rfl)
set_option maxRecDepth 20000 in
theorem wd_se_yX5_drawn : Cond.selects RX5 yX5_drawn yX5_drawn ∈ lw_TB := lw_inT (List.mem_of_getElem? (i := 15) (by rfl)) (by rfl)
set_option maxRecDepth 20000 in
theorem wd_se_yX5_goes : Cond.selects RX5 yX5_goes yX5_goes ∈ lw_TB := lw_inT (List.mem_of_getElem? (i := 16) (by rfl)) (by rfl)
set_option maxRecDepth 20000 in
theorem wd_se_yX5_restart : Cond.selects RX5 yX5_restart yX5_restart ∈ lw_TB := lw_inT (List.mem_of_getElem? (i := 17) (by rfl)) (by rfl)
set_option maxRecDepth 20000 in
theorem wd_se_yX6_begin : Cond.selects RX6 yX6_begin yX6_begin ∈ lw_TB := lw_inT (List.mem_of_getElem? (i := 18) (by rfl)) (by rfl)
set_option maxRecDepth 20000 in
theorem wd_se_yX6_stateOf : Cond.selects RX6 yX6_stateOf yX6_stateOf ∈ lw_TB := lw_inT (List.mem_of_getElem? (i := 19) (by rfl)) (by rfl)
set_option maxRecDepth 20000 in
theorem wd_se_yX6_doTurn : Cond.selects RX6 yX6_doTurn yX6_doTurn ∈ lw_TB := lw_inT (List.mem_of_getElem? (i := 20) (by rfl)) (by rfl)
set_option maxRecDepth 20000 in
theorem wd_se_yX6_doAct : Cond.selects RX6 yX6_doAct yX6_doAct ∈ lw_TB := lw_inT (List.mem_of_getElem? (i := 21) (by rfl)) (by rfl)
set_option maxRecDepth 20000 in
theorem wd_se_yX6_give : Cond.selects RX6 yX6_give yX6_give ∈ lw_TB := lw_inT (List.mem_of_getElem? (i := 22) (by rfl)) (by rfl)
set_option maxRecDepth 20000 in
theorem wd_se_yX6_read : Cond.selects RX6 yX6_read yX6_read ∈ lw_TB := lw_inT (List.mem_of_getElem? (i := 23) (by rfl)) (by rfl)
set_option maxRecDepth 20000 in
theorem wd_se_yX6_readPlain : Cond.selects RX6 yX6_readPlain yX6_readPlain ∈ lw_TB := lw_inT (List.mem_of_getElem? (i := 24) (by rfl)) (by rfl)
set_option maxRecDepth 20000 in
theorem wd_se_yX6_write : Cond.selects RX6 yX6_write yX6_write ∈ lw_TB := lw_inT (List.mem_of_getElem? (i := 25) (by rfl)) (by rfl)
set_option maxRecDepth 20000 in
theorem wd_se_yX6_note : Cond.selects RX6 yX6_note yX6_note ∈ lw_TB := lw_inT (List.mem_of_getElem? (i := 26) (by rfl)) (by rfl)
set_option maxRecDepth 20000 in
theorem wd_se_yX6_r : Cond.selects RX6 yX6_r yX6_r ∈ lw_TB := lw_inT (List.mem_of_getElem? (i := 27) (by rfl)) (by rfl)
set_option maxRecDepth 20000 in
theorem wd_se_yX6_lay : Cond.selects RX6 yX6_lay yX6_lay ∈ lw_TB := lw_inT (List.mem_of_getElem? (i := 28) (by rfl)) (by rfl)
set_option maxRecDepth 20000 in
theorem wd_se_yX6_compute : Cond.selects RX6 yX6_compute yX6_compute ∈ lw_TB := lw_inT (List.mem_of_getElem? (i := 29) (by rfl)) (by rfl)
set_option maxRecDepth 20000 in
theorem wd_se_yX6_swap : Cond.selects RX6 yX6_swap yX6_swap ∈ lw_TB := lw_inT (List.mem_of_getElem? (i := 30) (by rfl)) (by rfl)
set_option maxRecDepth 20000 in
theorem wd_se_yX6_beginAtom : Cond.selects RX6 yX6_beginAtom yX6_beginAtom ∈ lw_TB := lw_inT (List.mem_of_getElem? (i := 31) (by rfl)) (by rfl)
set_option maxRecDepth 20000 in
theorem wd_se_yX6_clearAtom : Cond.selects RX6 yX6_clearAtom yX6_clearAtom ∈ lw_TB := lw_inT (List.mem_of_getElem? (i := 32) (by rfl)) (by rfl)
set_option maxRecDepth 20000 in
theorem wd_se_yX6_endAtom : Cond.selects RX6 yX6_endAtom yX6_endAtom ∈ lw_TB := lw_inT (List.mem_of_getElem? (i := 33) (by rfl)) (by rfl)
set_option maxRecDepth 20000 in
theorem wd_se_yX6_rows : Cond.selects RX6 yX6_rows yX6_rows ∈ lw_TB := lw_inT (List.mem_of_getElem? (i := 34) (by rfl)) (by rfl)
set_option maxRecDepth 20000 in
theorem wd_se_yX6_checkItem : Cond.selects RX6 yX6_checkItem yX6_checkItem ∈ lw_TB := lw_inT (List.mem_of_getElem? (i := 35) (by rfl)) (by rfl)
set_option maxRecDepth 20000 in
theorem wd_se_yX6_fail : Cond.selects RX6 yX6_fail yX6_fail ∈ lw_TB := lw_inT (List.mem_of_getElem? (i := 36) (by rfl)) (by rfl)
set_option maxRecDepth 20000 in
theorem wd_ini_RL : Cond.initialized RL ∈ lw_TB := lw_inT (List.mem_of_getElem? (i := 37) (by rfl)) (by rfl)
set_option maxRecDepth 20000 in
theorem wd_ini_RX5 : Cond.initialized RX5 ∈ lw_TB := lw_inT (List.mem_of_getElem? (i := 38) (by rfl)) (by rfl)
set_option maxRecDepth 20000 in
theorem wd_ini_RX1 : Cond.initialized RX1 ∈ lw_TB := lw_inT (List.mem_of_getElem? (i := 39) (by rfl)) (by rfl)
set_option maxRecDepth 20000 in
theorem wd_ini_RX2 : Cond.initialized RX2 ∈ lw_TB := lw_inT (List.mem_of_getElem? (i := 40) (by rfl)) (by rfl)
set_option maxRecDepth 20000 in
theorem wd_ini_RJ7 : Cond.initialized RJ7 ∈ lw_TB := lw_inT (List.mem_of_getElem? (i := 41) (by rfl)) (by rfl)
set_option maxRecDepth 20000 in
theorem wd_ini_RX3 : Cond.initialized RX3 ∈ lw_TB := lw_inT (List.mem_of_getElem? (i := 42) (by rfl)) (by rfl)
set_option maxRecDepth 20000 in
theorem wd_ini_RX4 : Cond.initialized RX4 ∈ lw_TB := lw_inT (List.mem_of_getElem? (i := 43) (by rfl)) (by rfl)
set_option maxRecDepth 20000 in
theorem wd_ini_RX0 : Cond.initialized RX0 ∈ lw_TB := lw_inT (List.mem_of_getElem? (i := 44) (by rfl)) (by rfl)
set_option maxRecDepth 20000 in
theorem wd_ini_RX6 : Cond.initialized RX6 ∈ lw_TB := lw_inT (List.mem_of_getElem? (i := 45) (by rfl)) (by rfl)
set_option maxRecDepth 20000 in
theorem wd_ini_RJ10 : Cond.initialized RJ10 ∈ lw_TB := lw_inT (List.mem_of_getElem? (i := 46) (by rfl)) (by rfl)
set_option maxRecDepth 20000 in
theorem wd_cl_RL_7 : Cond.classLink RL 7 RX5 ∈ lw_TB := lw_inT (List.mem_of_getElem? (i := 47) (by rfl)) (by rfl)
set_option maxRecDepth 20000 in
theorem wd_ist_RX5 : Cond.instantiable RX5 5 ∈ lw_TB := lw_inT (List.mem_of_getElem? (i := 48) (by rfl)) (by rfl)
set_option maxRecDepth 20000 in
theorem wd_ml_RL_9 : Cond.methodLink RL 9 yX5_init ∈ lw_TB := lw_inT (List.mem_of_getElem? (i := 49) (by rfl)) (by rfl)
set_option maxRecDepth 20000 in
theorem wd_im_yX5_init : Cond.instanceMethod yX5_init ∈ lw_TB := lw_inT (List.mem_of_getElem? (i := 50) (by rfl)) (by rfl)
set_option maxRecDepth 20000 in
theorem wd_co_yX5_init : Cond.code yX5_init cX5_init 2 none ∈ lw_TB := lw_inT (List.mem_of_getElem? (i := 51) (by rfl)) (by rfl)
set_option maxRecDepth 20000 in
theorem wd_ml_RX5_1 : Cond.methodLink RX5 1 objectInit ∈ lw_TB := lw_inT (List.mem_of_getElem? (i := 52) (by rfl)) (by rfl)
set_option maxRecDepth 20000 in
theorem wd_im_objectInit : Cond.instanceMethod objectInit ∈ lw_TB := lw_inT (List.mem_of_getElem? (i := 53) (by rfl)) (by rfl)
set_option maxRecDepth 20000 in
theorem wd_co_objectInit : Cond.code objectInit ⟨#[0xb1]⟩ 1 none ∈ lw_TB := lw_inT (List.mem_of_getElem? (i := 54) (by rfl)) (by rfl)
set_option maxRecDepth 20000 in
theorem wd_cl_RX5_7 : Cond.classLink RX5 7 RX1 ∈ lw_TB := lw_inT (List.mem_of_getElem? (i := 55) (by rfl)) (by rfl)
set_option maxRecDepth 20000 in
theorem wd_ist_RX1 : Cond.instantiable RX1 4 ∈ lw_TB := lw_inT (List.mem_of_getElem? (i := 56) (by rfl)) (by rfl)
set_option maxRecDepth 20000 in
theorem wd_ml_RX5_9 : Cond.methodLink RX5 9 yX1_init ∈ lw_TB := lw_inT (List.mem_of_getElem? (i := 57) (by rfl)) (by rfl)
set_option maxRecDepth 20000 in
theorem wd_im_yX1_init : Cond.instanceMethod yX1_init ∈ lw_TB := lw_inT (List.mem_of_getElem? (i := 58) (by rfl)) (by rfl)
set_option maxRecDepth 20000 in
theorem wd_co_yX1_init : Cond.code yX1_init cX1_init 1 none ∈ lw_TB := lw_inT (List.mem_of_getElem? (i := 59) (by rfl)) (by rfl)
set_option maxRecDepth 20000 in
theorem wd_ml_RX1_3 : Cond.methodLink RX1 3 objectInit ∈ lw_TB := lw_inT (List.mem_of_getElem? (i := 60) (by rfl)) (by rfl)
set_option maxRecDepth 20000 in
theorem wd_cl_RX1_21 : Cond.classLink RX1 21 RX2 ∈ lw_TB := lw_inT (List.mem_of_getElem? (i := 61) (by rfl)) (by rfl)
set_option maxRecDepth 20000 in
theorem wd_ist_RX2 : Cond.instantiable RX2 5 ∈ lw_TB := lw_inT (List.mem_of_getElem? (i := 62) (by rfl)) (by rfl)
set_option maxRecDepth 20000 in
theorem wd_im_yX2_init : Cond.instanceMethod yX2_init ∈ lw_TB := lw_inT (List.mem_of_getElem? (i := 64) (by rfl)) (by rfl)
set_option maxRecDepth 20000 in
theorem wd_co_yX2_init : Cond.code yX2_init cX2_init 1 none ∈ lw_TB := lw_inT (List.mem_of_getElem? (i := 65) (by rfl)) (by rfl)
set_option maxRecDepth 20000 in
theorem wd_ml_RX2_3 : Cond.methodLink RX2 3 objectInit ∈ lw_TB := lw_inT (List.mem_of_getElem? (i := 66) (by rfl)) (by rfl)
set_option maxRecDepth 20000 in
theorem wd_fl_RX2_9 : Cond.fieldLink RX2 9 "MutableCells$Log" "threads" "[I" ∈ lw_TB := lw_inT (List.mem_of_getElem? (i := 67) (by rfl)) (by rfl)
set_option maxRecDepth 20000 in
theorem wd_fl_RX2_15 : Cond.fieldLink RX2 15 "MutableCells$Log" "places" "[I" ∈ lw_TB := lw_inT (List.mem_of_getElem? (i := 68) (by rfl)) (by rfl)
set_option maxRecDepth 20000 in
theorem wd_fl_RX2_18 : Cond.fieldLink RX2 18 "MutableCells$Log" "numbers" "[I" ∈ lw_TB := lw_inT (List.mem_of_getElem? (i := 69) (by rfl)) (by rfl)
set_option maxRecDepth 20000 in
theorem wd_fl_RX2_21 : Cond.fieldLink RX2 21 "MutableCells$Log" "latest" "I" ∈ lw_TB := lw_inT (List.mem_of_getElem? (i := 70) (by rfl)) (by rfl)
set_option maxRecDepth 20000 in
theorem wd_fl_RX2_25 : Cond.fieldLink RX2 25 "MutableCells$Log" "count" "I" ∈ lw_TB := lw_inT (List.mem_of_getElem? (i := 72) (by rfl)) (by rfl)
set_option maxRecDepth 20000 in
theorem wd_ac_int : Cond.arrayClass .int ∈ lw_TB := lw_inT (List.mem_of_getElem? (i := 85) (by rfl)) (by rfl)
set_option maxRecDepth 20000 in
theorem wd_ml_RX1_28 : Cond.methodLink RX1 28 yX1_reset ∈ lw_TB := lw_inT (List.mem_of_getElem? (i := 86) (by rfl)) (by rfl)
set_option maxRecDepth 20000 in
theorem wd_im_yX1_reset : Cond.instanceMethod yX1_reset ∈ lw_TB := lw_inT (List.mem_of_getElem? (i := 87) (by rfl)) (by rfl)
set_option maxRecDepth 20000 in
theorem wd_se_yX1_reset : Cond.selects RX1 yX1_reset yX1_reset ∈ lw_TB := lw_inT (List.mem_of_getElem? (i := 88) (by rfl)) (by rfl)
set_option maxRecDepth 20000 in
theorem wd_co_yX1_reset : Cond.code yX1_reset cX1_reset 1 none ∈ lw_TB := lw_inT (List.mem_of_getElem? (i := 89) (by rfl)) (by rfl)
set_option maxRecDepth 20000 in
theorem wd_ml_RX1_31 : Cond.methodLink RX1 31 yJ7_fill_53178 ∈ lw_TB := lw_inT (List.mem_of_getElem? (i := 90) (by rfl)) (by rfl)
set_option maxRecDepth 20000 in
theorem wd_sm_yJ7_fill_53178 : Cond.static yJ7_fill_53178 ∈ lw_TB := lw_inT (List.mem_of_getElem? (i := 91) (by rfl)) (by rfl)
set_option maxRecDepth 20000 in
theorem wd_co_yJ7_fill_53178 : Cond.code yJ7_fill_53178 cJ7_fill_53178 4 none ∈ lw_TB := lw_inT (List.mem_of_getElem? (i := 92) (by rfl)) (by rfl)
set_option maxRecDepth 20000 in
theorem wd_fl_RX1_9 : Cond.fieldLink RX1 9 "MutableCells$Cells" "numbers" "[I" ∈ lw_TB := lw_inT (List.mem_of_getElem? (i := 93) (by rfl)) (by rfl)
set_option maxRecDepth 20000 in
theorem wd_fl_RX1_15 : Cond.fieldLink RX1 15 "MutableCells$Cells" "partners" "[I" ∈ lw_TB := lw_inT (List.mem_of_getElem? (i := 94) (by rfl)) (by rfl)
set_option maxRecDepth 20000 in
theorem wd_fl_RX1_18 : Cond.fieldLink RX1 18 "MutableCells$Cells" "trail" "[I" ∈ lw_TB := lw_inT (List.mem_of_getElem? (i := 95) (by rfl)) (by rfl)
set_option maxRecDepth 20000 in
theorem wd_fl_RX1_24 : Cond.fieldLink RX1 24 "MutableCells$Cells" "log" "LMutableCells$Log;" ∈ lw_TB := lw_inT (List.mem_of_getElem? (i := 96) (by rfl)) (by rfl)
set_option maxRecDepth 20000 in
theorem wd_cl_RX5_16 : Cond.classLink RX5 16 RX3 ∈ lw_TB := lw_inT (List.mem_of_getElem? (i := 107) (by rfl)) (by rfl)
set_option maxRecDepth 20000 in
theorem wd_ist_RX3 : Cond.instantiable RX3 3 ∈ lw_TB := lw_inT (List.mem_of_getElem? (i := 108) (by rfl)) (by rfl)
set_option maxRecDepth 20000 in
theorem wd_ml_RX5_18 : Cond.methodLink RX5 18 yX3_init ∈ lw_TB := lw_inT (List.mem_of_getElem? (i := 109) (by rfl)) (by rfl)
set_option maxRecDepth 20000 in
theorem wd_im_yX3_init : Cond.instanceMethod yX3_init ∈ lw_TB := lw_inT (List.mem_of_getElem? (i := 110) (by rfl)) (by rfl)
set_option maxRecDepth 20000 in
theorem wd_co_yX3_init : Cond.code yX3_init cX3_init 1 none ∈ lw_TB := lw_inT (List.mem_of_getElem? (i := 111) (by rfl)) (by rfl)
set_option maxRecDepth 20000 in
theorem wd_ml_RX3_3 : Cond.methodLink RX3 3 objectInit ∈ lw_TB := lw_inT (List.mem_of_getElem? (i := 112) (by rfl)) (by rfl)
set_option maxRecDepth 20000 in
theorem wd_ml_RX3_22 : Cond.methodLink RX3 22 yX3_reset ∈ lw_TB := lw_inT (List.mem_of_getElem? (i := 113) (by rfl)) (by rfl)
set_option maxRecDepth 20000 in
theorem wd_im_yX3_reset : Cond.instanceMethod yX3_reset ∈ lw_TB := lw_inT (List.mem_of_getElem? (i := 114) (by rfl)) (by rfl)
set_option maxRecDepth 20000 in
theorem wd_se_yX3_reset : Cond.selects RX3 yX3_reset yX3_reset ∈ lw_TB := lw_inT (List.mem_of_getElem? (i := 115) (by rfl)) (by rfl)
set_option maxRecDepth 20000 in
theorem wd_co_yX3_reset : Cond.code yX3_reset cX3_reset 2 none ∈ lw_TB := lw_inT (List.mem_of_getElem? (i := 116) (by rfl)) (by rfl)
set_option maxRecDepth 20000 in
theorem wd_fl_RX3_9 : Cond.fieldLink RX3 9 "MutableCells$Rows" "lengths" "[I" ∈ lw_TB := lw_inT (List.mem_of_getElem? (i := 117) (by rfl)) (by rfl)
set_option maxRecDepth 20000 in
theorem wd_fl_RX3_15 : Cond.fieldLink RX3 15 "MutableCells$Rows" "ices" "[Z" ∈ lw_TB := lw_inT (List.mem_of_getElem? (i := 118) (by rfl)) (by rfl)
set_option maxRecDepth 20000 in
theorem wd_fl_RX3_19 : Cond.fieldLink RX3 19 "MutableCells$Rows" "items" "[I" ∈ lw_TB := lw_inT (List.mem_of_getElem? (i := 119) (by rfl)) (by rfl)
set_option maxRecDepth 20000 in
theorem wd_ac_boolean : Cond.arrayClass .boolean ∈ lw_TB := lw_inT (List.mem_of_getElem? (i := 127) (by rfl)) (by rfl)
set_option maxRecDepth 20000 in
theorem wd_cl_RX5_23 : Cond.classLink RX5 23 RX4 ∈ lw_TB := lw_inT (List.mem_of_getElem? (i := 128) (by rfl)) (by rfl)
set_option maxRecDepth 20000 in
theorem wd_ist_RX4 : Cond.instantiable RX4 15 ∈ lw_TB := lw_inT (List.mem_of_getElem? (i := 130) (by rfl)) (by rfl)
set_option maxRecDepth 20000 in
theorem wd_ml_RX5_29 : Cond.methodLink RX5 29 yX4_init ∈ lw_TB := lw_inT (List.mem_of_getElem? (i := 131) (by rfl)) (by rfl)
set_option maxRecDepth 20000 in
theorem wd_im_yX4_init : Cond.instanceMethod yX4_init ∈ lw_TB := lw_inT (List.mem_of_getElem? (i := 132) (by rfl)) (by rfl)
set_option maxRecDepth 20000 in
theorem wd_co_yX4_init : Cond.code yX4_init cX4_init 2 none ∈ lw_TB := lw_inT (List.mem_of_getElem? (i := 133) (by rfl)) (by rfl)
set_option maxRecDepth 20000 in
theorem wd_ml_RX4_3 : Cond.methodLink RX4 3 objectInit ∈ lw_TB := lw_inT (List.mem_of_getElem? (i := 134) (by rfl)) (by rfl)
set_option maxRecDepth 20000 in
theorem wd_cl_RX4_30 : Cond.classLink RX4 30 RX0 ∈ lw_TB := lw_inT (List.mem_of_getElem? (i := 135) (by rfl)) (by rfl)
set_option maxRecDepth 20000 in
theorem wd_ist_RX0 : Cond.instantiable RX0 8 ∈ lw_TB := lw_inT (List.mem_of_getElem? (i := 136) (by rfl)) (by rfl)
set_option maxRecDepth 20000 in
theorem wd_im_yX0_init : Cond.instanceMethod yX0_init ∈ lw_TB := lw_inT (List.mem_of_getElem? (i := 138) (by rfl)) (by rfl)
set_option maxRecDepth 20000 in
theorem wd_co_yX0_init : Cond.code yX0_init cX0_init 1 none ∈ lw_TB := lw_inT (List.mem_of_getElem? (i := 139) (by rfl)) (by rfl)
set_option maxRecDepth 20000 in
theorem wd_ml_RX0_3 : Cond.methodLink RX0 3 objectInit ∈ lw_TB := lw_inT (List.mem_of_getElem? (i := 140) (by rfl)) (by rfl)
set_option maxRecDepth 20000 in
theorem wd_fl_RX0_9 : Cond.fieldLink RX0 9 "MutableCells$Atom" "registers" "[I" ∈ lw_TB := lw_inT (List.mem_of_getElem? (i := 146) (by rfl)) (by rfl)
set_option maxRecDepth 20000 in
theorem wd_fl_RX0_15 : Cond.fieldLink RX0 15 "MutableCells$Atom" "putMarks" "[Z" ∈ lw_TB := lw_inT (List.mem_of_getElem? (i := 148) (by rfl)) (by rfl)
set_option maxRecDepth 20000 in
theorem wd_fl_RX0_19 : Cond.fieldLink RX0 19 "MutableCells$Atom" "putNumbers" "[I" ∈ lw_TB := lw_inT (List.mem_of_getElem? (i := 149) (by rfl)) (by rfl)
set_option maxRecDepth 20000 in
theorem wd_fl_RX0_22 : Cond.fieldLink RX0 22 "MutableCells$Atom" "readMarks" "[Z" ∈ lw_TB := lw_inT (List.mem_of_getElem? (i := 150) (by rfl)) (by rfl)
set_option maxRecDepth 20000 in
theorem wd_fl_RX0_25 : Cond.fieldLink RX0 25 "MutableCells$Atom" "firstNumbers" "[I" ∈ lw_TB := lw_inT (List.mem_of_getElem? (i := 151) (by rfl)) (by rfl)
set_option maxRecDepth 20000 in
theorem wd_fl_RX4_37 : Cond.fieldLink RX4 37 "MutableCells$Strand" "numbe\x72" "I" ∈ lw_TB := lw_inT (List.mem_of_getElem? (i := 169) (by rfl)) (by rfl)
set_option maxRecDepth 20000 in
theorem wd_fl_RX4_9 : Cond.fieldLink RX4 9 "MutableCells$Strand" "kinds" "[I" ∈ lw_TB := lw_inT (List.mem_of_getElem? (i := 171) (by rfl)) (by rfl)
set_option maxRecDepth 20000 in
theorem wd_fl_RX4_15 : Cond.fieldLink RX4 15 "MutableCells$Strand" "xs" "[I" ∈ lw_TB := lw_inT (List.mem_of_getElem? (i := 173) (by rfl)) (by rfl)
set_option maxRecDepth 20000 in
theorem wd_fl_RX4_18 : Cond.fieldLink RX4 18 "MutableCells$Strand" "ys" "[I" ∈ lw_TB := lw_inT (List.mem_of_getElem? (i := 175) (by rfl)) (by rfl)
set_option maxRecDepth 20000 in
theorem wd_fl_RX4_21 : Cond.fieldLink RX4 21 "MutableCells$Strand" "zs" "[I" ∈ lw_TB := lw_inT (List.mem_of_getElem? (i := 177) (by rfl)) (by rfl)
set_option maxRecDepth 20000 in
theorem wd_fl_RX4_41 : Cond.fieldLink RX4 41 "MutableCells$Strand" "acts" "I" ∈ lw_TB := lw_inT (List.mem_of_getElem? (i := 179) (by rfl)) (by rfl)
set_option maxRecDepth 20000 in
theorem wd_fl_RX4_24 : Cond.fieldLink RX4 24 "MutableCells$Strand" "registers" "[I" ∈ lw_TB := lw_inT (List.mem_of_getElem? (i := 181) (by rfl)) (by rfl)
set_option maxRecDepth 20000 in
theorem wd_fl_RX4_27 : Cond.fieldLink RX4 27 "MutableCells$Strand" "tryPlaces" "[I" ∈ lw_TB := lw_inT (List.mem_of_getElem? (i := 182) (by rfl)) (by rfl)
set_option maxRecDepth 20000 in
theorem wd_fl_RX4_50 : Cond.fieldLink RX4 50 "MutableCells$Strand" "trys" "I" ∈ lw_TB := lw_inT (List.mem_of_getElem? (i := 183) (by rfl)) (by rfl)
set_option maxRecDepth 20000 in
theorem wd_fl_RX4_33 : Cond.fieldLink RX4 33 "MutableCells$Strand" "atom" "LMutableCells$Atom;" ∈ lw_TB := lw_inT (List.mem_of_getElem? (i := 185) (by rfl)) (by rfl)
set_option maxRecDepth 20000 in
theorem wd_fl_RX4_57 : Cond.fieldLink RX4 57 "MutableCells$Strand" "place" "I" ∈ lw_TB := lw_inT (List.mem_of_getElem? (i := 187) (by rfl)) (by rfl)
set_option maxRecDepth 20000 in
theorem wd_fl_RX4_85 : Cond.fieldLink RX4 85 "MutableCells$Strand" "next" "I" ∈ lw_TB := lw_inT (List.mem_of_getElem? (i := 189) (by rfl)) (by rfl)
set_option maxRecDepth 20000 in
theorem wd_fl_RX4_60 : Cond.fieldLink RX4 60 "MutableCells$Strand" "failure" "I" ∈ lw_TB := lw_inT (List.mem_of_getElem? (i := 191) (by rfl)) (by rfl)
set_option maxRecDepth 20000 in
theorem wd_fl_RX4_63 : Cond.fieldLink RX4 63 "MutableCells$Strand" "turns" "I" ∈ lw_TB := lw_inT (List.mem_of_getElem? (i := 194) (by rfl)) (by rfl)
set_option maxRecDepth 20000 in
theorem wd_fl_RX4_66 : Cond.fieldLink RX4 66 "MutableCells$Strand" "anews" "I" ∈ lw_TB := lw_inT (List.mem_of_getElem? (i := 195) (by rfl)) (by rfl)
set_option maxRecDepth 20000 in
theorem wd_fl_RX5_10 : Cond.fieldLink RX5 10 "MutableCells" "cells" "LMutableCells$Cells;" ∈ lw_TB := lw_inT (List.mem_of_getElem? (i := 228) (by rfl)) (by rfl)
set_option maxRecDepth 20000 in
theorem wd_fl_RX5_19 : Cond.fieldLink RX5 19 "MutableCells" "rows" "LMutableCells$Rows;" ∈ lw_TB := lw_inT (List.mem_of_getElem? (i := 229) (by rfl)) (by rfl)
set_option maxRecDepth 20000 in
theorem wd_fl_RX5_25 : Cond.fieldLink RX5 25 "MutableCells" "strands" "[LMutableCells$Strand;" ∈ lw_TB := lw_inT (List.mem_of_getElem? (i := 230) (by rfl)) (by rfl)
set_option maxRecDepth 20000 in
theorem wd_fl_RX5_137 : Cond.fieldLink RX5 137 "MutableCells" "turnsDone" "I" ∈ lw_TB := lw_inT (List.mem_of_getElem? (i := 231) (by rfl)) (by rfl)
set_option maxRecDepth 20000 in
theorem wd_fl_RX5_54 : Cond.fieldLink RX5 54 "MutableCells" "failures" "I" ∈ lw_TB := lw_inT (List.mem_of_getElem? (i := 232) (by rfl)) (by rfl)
set_option maxRecDepth 20000 in
theorem wd_ml_RL_13 : Cond.methodLink RL 13 yX5_act ∈ lw_TB := lw_inT (List.mem_of_getElem? (i := 244) (by rfl)) (by rfl)
set_option maxRecDepth 20000 in
theorem wd_im_yX5_act : Cond.instanceMethod yX5_act ∈ lw_TB := lw_inT (List.mem_of_getElem? (i := 245) (by rfl)) (by rfl)
set_option maxRecDepth 20000 in
theorem wd_se_yX5_act : Cond.selects RX5 yX5_act yX5_act ∈ lw_TB := lw_inT (List.mem_of_getElem? (i := 246) (by rfl)) (by rfl)
set_option maxRecDepth 20000 in
theorem wd_co_yX5_act : Cond.code yX5_act cX5_act 7 (some .int) ∈ lw_TB := lw_inT (List.mem_of_getElem? (i := 247) (by rfl)) (by rfl)
set_option maxRecDepth 20000 in
theorem wd_ml_RX5_32 : Cond.methodLink RX5 32 yX5_strandOf ∈ lw_TB := lw_inT (List.mem_of_getElem? (i := 248) (by rfl)) (by rfl)
set_option maxRecDepth 20000 in
theorem wd_im_yX5_strandOf : Cond.instanceMethod yX5_strandOf ∈ lw_TB := lw_inT (List.mem_of_getElem? (i := 250) (by rfl)) (by rfl)
set_option maxRecDepth 20000 in
theorem wd_co_yX5_strandOf : Cond.code yX5_strandOf cX5_strandOf 2 (some (.object "MutableCells$Strand")) ∈ lw_TB := lw_inT (List.mem_of_getElem? (i := 251) (by rfl)) (by rfl)
set_option maxRecDepth 20000 in
theorem wd_ml_RX5_36 : Cond.methodLink RX5 36 yX5_mayBe ∈ lw_TB := lw_inT (List.mem_of_getElem? (i := 252) (by rfl)) (by rfl)
set_option maxRecDepth 20000 in
theorem wd_sm_yX5_mayBe : Cond.static yX5_mayBe ∈ lw_TB := lw_inT (List.mem_of_getElem? (i := 253) (by rfl)) (by rfl)
set_option maxRecDepth 20000 in
theorem wd_co_yX5_mayBe : Cond.code yX5_mayBe cX5_mayBe 4 (some .boolean) ∈ lw_TB := lw_inT (List.mem_of_getElem? (i := 254) (by rfl)) (by rfl)
set_option maxRecDepth 20000 in
theorem wd_ml_RX5_87 : Cond.methodLink RX5 87 yX5_isRegister ∈ lw_TB := lw_inT (List.mem_of_getElem? (i := 255) (by rfl)) (by rfl)
set_option maxRecDepth 20000 in
theorem wd_sm_yX5_isRegister : Cond.static yX5_isRegister ∈ lw_TB := lw_inT (List.mem_of_getElem? (i := 256) (by rfl)) (by rfl)
set_option maxRecDepth 20000 in
theorem wd_co_yX5_isRegister : Cond.code yX5_isRegister cX5_isRegister 1 (some .boolean) ∈ lw_TB := lw_inT (List.mem_of_getElem? (i := 257) (by rfl)) (by rfl)
set_option maxRecDepth 20000 in
theorem wd_ml_RX5_95 : Cond.methodLink RX5 95 yX5_isCell ∈ lw_TB := lw_inT (List.mem_of_getElem? (i := 258) (by rfl)) (by rfl)
set_option maxRecDepth 20000 in
theorem wd_sm_yX5_isCell : Cond.static yX5_isCell ∈ lw_TB := lw_inT (List.mem_of_getElem? (i := 259) (by rfl)) (by rfl)
set_option maxRecDepth 20000 in
theorem wd_co_yX5_isCell : Cond.code yX5_isCell cX5_isCell 1 (some .boolean) ∈ lw_TB := lw_inT (List.mem_of_getElem? (i := 260) (by rfl)) (by rfl)
set_option maxRecDepth 20000 in
theorem wd_ml_RX5_104 : Cond.methodLink RX5 104 yX5_isRow ∈ lw_TB := lw_inT (List.mem_of_getElem? (i := 261) (by rfl)) (by rfl)
set_option maxRecDepth 20000 in
theorem wd_sm_yX5_isRow : Cond.static yX5_isRow ∈ lw_TB := lw_inT (List.mem_of_getElem? (i := 262) (by rfl)) (by rfl)
set_option maxRecDepth 20000 in
theorem wd_co_yX5_isRow : Cond.code yX5_isRow cX5_isRow 1 (some .boolean) ∈ lw_TB := lw_inT (List.mem_of_getElem? (i := 263) (by rfl)) (by rfl)
set_option maxRecDepth 20000 in
theorem wd_ml_RX5_147 : Cond.methodLink RX5 147 yX5_isPlace ∈ lw_TB := lw_inT (List.mem_of_getElem? (i := 264) (by rfl)) (by rfl)
set_option maxRecDepth 20000 in
theorem wd_sm_yX5_isPlace : Cond.static yX5_isPlace ∈ lw_TB := lw_inT (List.mem_of_getElem? (i := 265) (by rfl)) (by rfl)
set_option maxRecDepth 20000 in
theorem wd_co_yX5_isPlace : Cond.code yX5_isPlace cX5_isPlace 1 (some .boolean) ∈ lw_TB := lw_inT (List.mem_of_getElem? (i := 266) (by rfl)) (by rfl)
set_option maxRecDepth 20000 in
theorem wd_ml_RX5_44 : Cond.methodLink RX5 44 yX4_append ∈ lw_TB := lw_inT (List.mem_of_getElem? (i := 267) (by rfl)) (by rfl)
set_option maxRecDepth 20000 in
theorem wd_im_yX4_append : Cond.instanceMethod yX4_append ∈ lw_TB := lw_inT (List.mem_of_getElem? (i := 268) (by rfl)) (by rfl)
set_option maxRecDepth 20000 in
theorem wd_se_yX4_append : Cond.selects RX4 yX4_append yX4_append ∈ lw_TB := lw_inT (List.mem_of_getElem? (i := 269) (by rfl)) (by rfl)
set_option maxRecDepth 20000 in
theorem wd_co_yX4_append : Cond.code yX4_append cX4_append 5 (some .boolean) ∈ lw_TB := lw_inT (List.mem_of_getElem? (i := 270) (by rfl)) (by rfl)
set_option maxRecDepth 20000 in
theorem wd_ml_RL_18 : Cond.methodLink RL 18 yX5_turn ∈ lw_TB := lw_inT (List.mem_of_getElem? (i := 271) (by rfl)) (by rfl)
set_option maxRecDepth 20000 in
theorem wd_im_yX5_turn : Cond.instanceMethod yX5_turn ∈ lw_TB := lw_inT (List.mem_of_getElem? (i := 272) (by rfl)) (by rfl)
set_option maxRecDepth 20000 in
theorem wd_se_yX5_turn : Cond.selects RX5 yX5_turn yX5_turn ∈ lw_TB := lw_inT (List.mem_of_getElem? (i := 273) (by rfl)) (by rfl)
set_option maxRecDepth 20000 in
theorem wd_co_yX5_turn : Cond.code yX5_turn cX5_turn 3 (some .int) ∈ lw_TB := lw_inT (List.mem_of_getElem? (i := 274) (by rfl)) (by rfl)
set_option maxRecDepth 20000 in
theorem wd_ml_RX5_50 : Cond.methodLink RX5 50 yX4_state ∈ lw_TB := lw_inT (List.mem_of_getElem? (i := 275) (by rfl)) (by rfl)
set_option maxRecDepth 20000 in
theorem wd_im_yX4_state : Cond.instanceMethod yX4_state ∈ lw_TB := lw_inT (List.mem_of_getElem? (i := 276) (by rfl)) (by rfl)
set_option maxRecDepth 20000 in
theorem wd_se_yX4_state : Cond.selects RX4 yX4_state yX4_state ∈ lw_TB := lw_inT (List.mem_of_getElem? (i := 277) (by rfl)) (by rfl)
set_option maxRecDepth 20000 in
theorem wd_co_yX4_state : Cond.code yX4_state cX4_state 1 (some .int) ∈ lw_TB := lw_inT (List.mem_of_getElem? (i := 278) (by rfl)) (by rfl)
set_option maxRecDepth 20000 in
theorem wd_ml_RX5_57 : Cond.methodLink RX5 57 yX5_takeTurn ∈ lw_TB := lw_inT (List.mem_of_getElem? (i := 279) (by rfl)) (by rfl)
set_option maxRecDepth 20000 in
theorem wd_im_yX5_takeTurn : Cond.instanceMethod yX5_takeTurn ∈ lw_TB := lw_inT (List.mem_of_getElem? (i := 281) (by rfl)) (by rfl)
set_option maxRecDepth 20000 in
theorem wd_co_yX5_takeTurn : Cond.code yX5_takeTurn cX5_takeTurn 3 none ∈ lw_TB := lw_inT (List.mem_of_getElem? (i := 282) (by rfl)) (by rfl)
set_option maxRecDepth 20000 in
theorem wd_ml_RX5_156 : Cond.methodLink RX5 156 yX5_perform ∈ lw_TB := lw_inT (List.mem_of_getElem? (i := 283) (by rfl)) (by rfl)
set_option maxRecDepth 20000 in
theorem wd_im_yX5_perform : Cond.instanceMethod yX5_perform ∈ lw_TB := lw_inT (List.mem_of_getElem? (i := 285) (by rfl)) (by rfl)
set_option maxRecDepth 20000 in
theorem wd_co_yX5_perform : Cond.code yX5_perform cX5_perform 7 (some .int) ∈ lw_TB := lw_inT (List.mem_of_getElem? (i := 286) (by rfl)) (by rfl)
set_option maxRecDepth 20000 in
theorem wd_ml_RX5_176 : Cond.methodLink RX5 176 yX5_isBarredFromAtoms ∈ lw_TB := lw_inT (List.mem_of_getElem? (i := 287) (by rfl)) (by rfl)
set_option maxRecDepth 20000 in
theorem wd_sm_yX5_isBarredFromAtoms : Cond.static yX5_isBarredFromAtoms ∈ lw_TB := lw_inT (List.mem_of_getElem? (i := 288) (by rfl)) (by rfl)
set_option maxRecDepth 20000 in
theorem wd_co_yX5_isBarredFromAtoms : Cond.code yX5_isBarredFromAtoms cX5_isBarredFromAtoms 1 (some .boolean) ∈ lw_TB := lw_inT (List.mem_of_getElem? (i := 289) (by rfl)) (by rfl)
set_option maxRecDepth 20000 in
theorem wd_ml_RX5_179 : Cond.methodLink RX5 179 yX5_getCell ∈ lw_TB := lw_inT (List.mem_of_getElem? (i := 290) (by rfl)) (by rfl)
set_option maxRecDepth 20000 in
theorem wd_im_yX5_getCell : Cond.instanceMethod yX5_getCell ∈ lw_TB := lw_inT (List.mem_of_getElem? (i := 292) (by rfl)) (by rfl)
set_option maxRecDepth 20000 in
theorem wd_co_yX5_getCell : Cond.code yX5_getCell cX5_getCell 5 (some .int) ∈ lw_TB := lw_inT (List.mem_of_getElem? (i := 293) (by rfl)) (by rfl)
set_option maxRecDepth 20000 in
theorem wd_ml_RX5_220 : Cond.methodLink RX5 220 yX5_failureOfReading ∈ lw_TB := lw_inT (List.mem_of_getElem? (i := 294) (by rfl)) (by rfl)
set_option maxRecDepth 20000 in
theorem wd_im_yX5_failureOfReading : Cond.instanceMethod yX5_failureOfReading ∈ lw_TB := lw_inT (List.mem_of_getElem? (i := 296) (by rfl)) (by rfl)
set_option maxRecDepth 20000 in
theorem wd_co_yX5_failureOfReading : Cond.code yX5_failureOfReading cX5_failureOfReading 3 (some .int) ∈ lw_TB := lw_inT (List.mem_of_getElem? (i := 297) (by rfl)) (by rfl)
set_option maxRecDepth 20000 in
theorem wd_ml_RX5_101 : Cond.methodLink RX5 101 yX1_isLazy ∈ lw_TB := lw_inT (List.mem_of_getElem? (i := 298) (by rfl)) (by rfl)
set_option maxRecDepth 20000 in
theorem wd_im_yX1_isLazy : Cond.instanceMethod yX1_isLazy ∈ lw_TB := lw_inT (List.mem_of_getElem? (i := 299) (by rfl)) (by rfl)
set_option maxRecDepth 20000 in
theorem wd_se_yX1_isLazy : Cond.selects RX1 yX1_isLazy yX1_isLazy ∈ lw_TB := lw_inT (List.mem_of_getElem? (i := 300) (by rfl)) (by rfl)
set_option maxRecDepth 20000 in
theorem wd_co_yX1_isLazy : Cond.code yX1_isLazy cX1_isLazy 2 (some .boolean) ∈ lw_TB := lw_inT (List.mem_of_getElem? (i := 301) (by rfl)) (by rfl)
set_option maxRecDepth 20000 in
theorem wd_ml_RX5_227 : Cond.methodLink RX5 227 yX0_hasPut ∈ lw_TB := lw_inT (List.mem_of_getElem? (i := 303) (by rfl)) (by rfl)
set_option maxRecDepth 20000 in
theorem wd_im_yX0_hasPut : Cond.instanceMethod yX0_hasPut ∈ lw_TB := lw_inT (List.mem_of_getElem? (i := 304) (by rfl)) (by rfl)
set_option maxRecDepth 20000 in
theorem wd_se_yX0_hasPut : Cond.selects RX0 yX0_hasPut yX0_hasPut ∈ lw_TB := lw_inT (List.mem_of_getElem? (i := 305) (by rfl)) (by rfl)
set_option maxRecDepth 20000 in
theorem wd_co_yX0_hasPut : Cond.code yX0_hasPut cX0_hasPut 2 (some .boolean) ∈ lw_TB := lw_inT (List.mem_of_getElem? (i := 306) (by rfl)) (by rfl)
set_option maxRecDepth 20000 in
theorem wd_ml_RX5_230 : Cond.methodLink RX5 230 yX1_leadsToRing ∈ lw_TB := lw_inT (List.mem_of_getElem? (i := 308) (by rfl)) (by rfl)
set_option maxRecDepth 20000 in
theorem wd_im_yX1_leadsToRing : Cond.instanceMethod yX1_leadsToRing ∈ lw_TB := lw_inT (List.mem_of_getElem? (i := 309) (by rfl)) (by rfl)
set_option maxRecDepth 20000 in
theorem wd_se_yX1_leadsToRing : Cond.selects RX1 yX1_leadsToRing yX1_leadsToRing ∈ lw_TB := lw_inT (List.mem_of_getElem? (i := 310) (by rfl)) (by rfl)
set_option maxRecDepth 20000 in
theorem wd_co_yX1_leadsToRing : Cond.code yX1_leadsToRing cX1_leadsToRing 4 (some .boolean) ∈ lw_TB := lw_inT (List.mem_of_getElem? (i := 311) (by rfl)) (by rfl)
set_option maxRecDepth 20000 in
theorem wd_ml_RX1_53 : Cond.methodLink RX1 53 yX1_isLazy ∈ lw_TB := lw_inT (List.mem_of_getElem? (i := 312) (by rfl)) (by rfl)
set_option maxRecDepth 20000 in
theorem wd_ml_RX1_56 : Cond.methodLink RX1 56 yX1_shown ∈ lw_TB := lw_inT (List.mem_of_getElem? (i := 313) (by rfl)) (by rfl)
set_option maxRecDepth 20000 in
theorem wd_im_yX1_shown : Cond.instanceMethod yX1_shown ∈ lw_TB := lw_inT (List.mem_of_getElem? (i := 314) (by rfl)) (by rfl)
set_option maxRecDepth 20000 in
theorem wd_se_yX1_shown : Cond.selects RX1 yX1_shown yX1_shown ∈ lw_TB := lw_inT (List.mem_of_getElem? (i := 315) (by rfl)) (by rfl)
set_option maxRecDepth 20000 in
theorem wd_co_yX1_shown : Cond.code yX1_shown cX1_shown 2 (some .int) ∈ lw_TB := lw_inT (List.mem_of_getElem? (i := 316) (by rfl)) (by rfl)
set_option maxRecDepth 20000 in
theorem wd_ml_RX5_224 : Cond.methodLink RX5 224 yX5_readCell ∈ lw_TB := lw_inT (List.mem_of_getElem? (i := 317) (by rfl)) (by rfl)
set_option maxRecDepth 20000 in
theorem wd_im_yX5_readCell : Cond.instanceMethod yX5_readCell ∈ lw_TB := lw_inT (List.mem_of_getElem? (i := 319) (by rfl)) (by rfl)
set_option maxRecDepth 20000 in
theorem wd_co_yX5_readCell : Cond.code yX5_readCell cX5_readCell 4 (some .int) ∈ lw_TB := lw_inT (List.mem_of_getElem? (i := 320) (by rfl)) (by rfl)
set_option maxRecDepth 20000 in
theorem wd_ml_RX5_236 : Cond.methodLink RX5 236 yX1_workedOut ∈ lw_TB := lw_inT (List.mem_of_getElem? (i := 321) (by rfl)) (by rfl)
set_option maxRecDepth 20000 in
theorem wd_im_yX1_workedOut : Cond.instanceMethod yX1_workedOut ∈ lw_TB := lw_inT (List.mem_of_getElem? (i := 322) (by rfl)) (by rfl)
set_option maxRecDepth 20000 in
theorem wd_se_yX1_workedOut : Cond.selects RX1 yX1_workedOut yX1_workedOut ∈ lw_TB := lw_inT (List.mem_of_getElem? (i := 323) (by rfl)) (by rfl)
set_option maxRecDepth 20000 in
theorem wd_co_yX1_workedOut : Cond.code yX1_workedOut cX1_workedOut 7 (some .int) ∈ lw_TB := lw_inT (List.mem_of_getElem? (i := 324) (by rfl)) (by rfl)
set_option maxRecDepth 20000 in
theorem wd_ml_RX1_60 : Cond.methodLink RX1 60 yX1_count ∈ lw_TB := lw_inT (List.mem_of_getElem? (i := 325) (by rfl)) (by rfl)
set_option maxRecDepth 20000 in
theorem wd_im_yX1_count : Cond.instanceMethod yX1_count ∈ lw_TB := lw_inT (List.mem_of_getElem? (i := 326) (by rfl)) (by rfl)
set_option maxRecDepth 20000 in
theorem wd_se_yX1_count : Cond.selects RX1 yX1_count yX1_count ∈ lw_TB := lw_inT (List.mem_of_getElem? (i := 327) (by rfl)) (by rfl)
set_option maxRecDepth 20000 in
theorem wd_co_yX1_count : Cond.code yX1_count cX1_count 4 none ∈ lw_TB := lw_inT (List.mem_of_getElem? (i := 328) (by rfl)) (by rfl)
set_option maxRecDepth 20000 in
theorem wd_ml_RX1_45 : Cond.methodLink RX1 45 yX1_hold ∈ lw_TB := lw_inT (List.mem_of_getElem? (i := 329) (by rfl)) (by rfl)
set_option maxRecDepth 20000 in
theorem wd_im_yX1_hold : Cond.instanceMethod yX1_hold ∈ lw_TB := lw_inT (List.mem_of_getElem? (i := 330) (by rfl)) (by rfl)
set_option maxRecDepth 20000 in
theorem wd_se_yX1_hold : Cond.selects RX1 yX1_hold yX1_hold ∈ lw_TB := lw_inT (List.mem_of_getElem? (i := 331) (by rfl)) (by rfl)
set_option maxRecDepth 20000 in
theorem wd_co_yX1_hold : Cond.code yX1_hold cX1_hold 3 none ∈ lw_TB := lw_inT (List.mem_of_getElem? (i := 332) (by rfl)) (by rfl)
set_option maxRecDepth 20000 in
theorem wd_ml_RX1_49 : Cond.methodLink RX1 49 yX2_add ∈ lw_TB := lw_inT (List.mem_of_getElem? (i := 333) (by rfl)) (by rfl)
set_option maxRecDepth 20000 in
theorem wd_im_yX2_add : Cond.instanceMethod yX2_add ∈ lw_TB := lw_inT (List.mem_of_getElem? (i := 334) (by rfl)) (by rfl)
set_option maxRecDepth 20000 in
theorem wd_se_yX2_add : Cond.selects RX2 yX2_add yX2_add ∈ lw_TB := lw_inT (List.mem_of_getElem? (i := 335) (by rfl)) (by rfl)
set_option maxRecDepth 20000 in
theorem wd_co_yX2_add : Cond.code yX2_add cX2_add 4 none ∈ lw_TB := lw_inT (List.mem_of_getElem? (i := 336) (by rfl)) (by rfl)
set_option maxRecDepth 20000 in
theorem wd_ml_RX5_239 : Cond.methodLink RX5 239 yX0_putNumber ∈ lw_TB := lw_inT (List.mem_of_getElem? (i := 337) (by rfl)) (by rfl)
set_option maxRecDepth 20000 in
theorem wd_im_yX0_putNumber : Cond.instanceMethod yX0_putNumber ∈ lw_TB := lw_inT (List.mem_of_getElem? (i := 338) (by rfl)) (by rfl)
set_option maxRecDepth 20000 in
theorem wd_se_yX0_putNumber : Cond.selects RX0 yX0_putNumber yX0_putNumber ∈ lw_TB := lw_inT (List.mem_of_getElem? (i := 339) (by rfl)) (by rfl)
set_option maxRecDepth 20000 in
theorem wd_co_yX0_putNumber : Cond.code yX0_putNumber cX0_putNumber 2 (some .int) ∈ lw_TB := lw_inT (List.mem_of_getElem? (i := 340) (by rfl)) (by rfl)
set_option maxRecDepth 20000 in
theorem wd_ml_RX5_98 : Cond.methodLink RX5 98 yX1_shown ∈ lw_TB := lw_inT (List.mem_of_getElem? (i := 341) (by rfl)) (by rfl)
set_option maxRecDepth 20000 in
theorem wd_ml_RX5_242 : Cond.methodLink RX5 242 yX0_noteReading ∈ lw_TB := lw_inT (List.mem_of_getElem? (i := 342) (by rfl)) (by rfl)
set_option maxRecDepth 20000 in
theorem wd_im_yX0_noteReading : Cond.instanceMethod yX0_noteReading ∈ lw_TB := lw_inT (List.mem_of_getElem? (i := 343) (by rfl)) (by rfl)
set_option maxRecDepth 20000 in
theorem wd_se_yX0_noteReading : Cond.selects RX0 yX0_noteReading yX0_noteReading ∈ lw_TB := lw_inT (List.mem_of_getElem? (i := 344) (by rfl)) (by rfl)
set_option maxRecDepth 20000 in
theorem wd_co_yX0_noteReading : Cond.code yX0_noteReading cX0_noteReading 3 none ∈ lw_TB := lw_inT (List.mem_of_getElem? (i := 345) (by rfl)) (by rfl)
set_option maxRecDepth 20000 in
theorem wd_ml_RX5_217 : Cond.methodLink RX5 217 yX4_keep ∈ lw_TB := lw_inT (List.mem_of_getElem? (i := 346) (by rfl)) (by rfl)
set_option maxRecDepth 20000 in
theorem wd_im_yX4_keep : Cond.instanceMethod yX4_keep ∈ lw_TB := lw_inT (List.mem_of_getElem? (i := 347) (by rfl)) (by rfl)
set_option maxRecDepth 20000 in
theorem wd_se_yX4_keep : Cond.selects RX4 yX4_keep yX4_keep ∈ lw_TB := lw_inT (List.mem_of_getElem? (i := 348) (by rfl)) (by rfl)
set_option maxRecDepth 20000 in
theorem wd_co_yX4_keep : Cond.code yX4_keep cX4_keep 3 none ∈ lw_TB := lw_inT (List.mem_of_getElem? (i := 349) (by rfl)) (by rfl)
set_option maxRecDepth 20000 in
theorem wd_ml_RX5_91 : Cond.methodLink RX5 91 yX4_held ∈ lw_TB := lw_inT (List.mem_of_getElem? (i := 351) (by rfl)) (by rfl)
set_option maxRecDepth 20000 in
theorem wd_im_yX4_held : Cond.instanceMethod yX4_held ∈ lw_TB := lw_inT (List.mem_of_getElem? (i := 352) (by rfl)) (by rfl)
set_option maxRecDepth 20000 in
theorem wd_se_yX4_held : Cond.selects RX4 yX4_held yX4_held ∈ lw_TB := lw_inT (List.mem_of_getElem? (i := 353) (by rfl)) (by rfl)
set_option maxRecDepth 20000 in
theorem wd_co_yX4_held : Cond.code yX4_held cX4_held 2 (some .int) ∈ lw_TB := lw_inT (List.mem_of_getElem? (i := 354) (by rfl)) (by rfl)
set_option maxRecDepth 20000 in
theorem wd_ml_RX5_183 : Cond.methodLink RX5 183 yX5_putCell ∈ lw_TB := lw_inT (List.mem_of_getElem? (i := 355) (by rfl)) (by rfl)
set_option maxRecDepth 20000 in
theorem wd_im_yX5_putCell : Cond.instanceMethod yX5_putCell ∈ lw_TB := lw_inT (List.mem_of_getElem? (i := 357) (by rfl)) (by rfl)
set_option maxRecDepth 20000 in
theorem wd_co_yX5_putCell : Cond.code yX5_putCell cX5_putCell 4 none ∈ lw_TB := lw_inT (List.mem_of_getElem? (i := 358) (by rfl)) (by rfl)
set_option maxRecDepth 20000 in
theorem wd_ml_RX5_245 : Cond.methodLink RX5 245 yX0_notePut ∈ lw_TB := lw_inT (List.mem_of_getElem? (i := 359) (by rfl)) (by rfl)
set_option maxRecDepth 20000 in
theorem wd_im_yX0_notePut : Cond.instanceMethod yX0_notePut ∈ lw_TB := lw_inT (List.mem_of_getElem? (i := 360) (by rfl)) (by rfl)
set_option maxRecDepth 20000 in
theorem wd_se_yX0_notePut : Cond.selects RX0 yX0_notePut yX0_notePut ∈ lw_TB := lw_inT (List.mem_of_getElem? (i := 361) (by rfl)) (by rfl)
set_option maxRecDepth 20000 in
theorem wd_co_yX0_notePut : Cond.code yX0_notePut cX0_notePut 3 none ∈ lw_TB := lw_inT (List.mem_of_getElem? (i := 362) (by rfl)) (by rfl)
set_option maxRecDepth 20000 in
theorem wd_ml_RX5_248 : Cond.methodLink RX5 248 yX1_count ∈ lw_TB := lw_inT (List.mem_of_getElem? (i := 363) (by rfl)) (by rfl)
set_option maxRecDepth 20000 in
theorem wd_ml_RX5_187 : Cond.methodLink RX5 187 yX5_loadItem ∈ lw_TB := lw_inT (List.mem_of_getElem? (i := 364) (by rfl)) (by rfl)
set_option maxRecDepth 20000 in
theorem wd_im_yX5_loadItem : Cond.instanceMethod yX5_loadItem ∈ lw_TB := lw_inT (List.mem_of_getElem? (i := 366) (by rfl)) (by rfl)
set_option maxRecDepth 20000 in
theorem wd_co_yX5_loadItem : Cond.code yX5_loadItem cX5_loadItem 6 (some .int) ∈ lw_TB := lw_inT (List.mem_of_getElem? (i := 367) (by rfl)) (by rfl)
set_option maxRecDepth 20000 in
theorem wd_ml_RX5_214 : Cond.methodLink RX5 214 yX3_failureAt ∈ lw_TB := lw_inT (List.mem_of_getElem? (i := 368) (by rfl)) (by rfl)
set_option maxRecDepth 20000 in
theorem wd_im_yX3_failureAt : Cond.instanceMethod yX3_failureAt ∈ lw_TB := lw_inT (List.mem_of_getElem? (i := 369) (by rfl)) (by rfl)
set_option maxRecDepth 20000 in
theorem wd_se_yX3_failureAt : Cond.selects RX3 yX3_failureAt yX3_failureAt ∈ lw_TB := lw_inT (List.mem_of_getElem? (i := 370) (by rfl)) (by rfl)
set_option maxRecDepth 20000 in
theorem wd_co_yX3_failureAt : Cond.code yX3_failureAt cX3_failureAt 3 (some .int) ∈ lw_TB := lw_inT (List.mem_of_getElem? (i := 371) (by rfl)) (by rfl)
set_option maxRecDepth 20000 in
theorem wd_ml_RX3_33 : Cond.methodLink RX3 33 yX3_length ∈ lw_TB := lw_inT (List.mem_of_getElem? (i := 372) (by rfl)) (by rfl)
set_option maxRecDepth 20000 in
theorem wd_im_yX3_length : Cond.instanceMethod yX3_length ∈ lw_TB := lw_inT (List.mem_of_getElem? (i := 373) (by rfl)) (by rfl)
set_option maxRecDepth 20000 in
theorem wd_se_yX3_length : Cond.selects RX3 yX3_length yX3_length ∈ lw_TB := lw_inT (List.mem_of_getElem? (i := 374) (by rfl)) (by rfl)
set_option maxRecDepth 20000 in
theorem wd_co_yX3_length : Cond.code yX3_length cX3_length 2 (some .int) ∈ lw_TB := lw_inT (List.mem_of_getElem? (i := 375) (by rfl)) (by rfl)
set_option maxRecDepth 20000 in
theorem wd_ml_RX3_29 : Cond.methodLink RX3 29 yX3_hasItem ∈ lw_TB := lw_inT (List.mem_of_getElem? (i := 377) (by rfl)) (by rfl)
set_option maxRecDepth 20000 in
theorem wd_im_yX3_hasItem : Cond.instanceMethod yX3_hasItem ∈ lw_TB := lw_inT (List.mem_of_getElem? (i := 378) (by rfl)) (by rfl)
set_option maxRecDepth 20000 in
theorem wd_se_yX3_hasItem : Cond.selects RX3 yX3_hasItem yX3_hasItem ∈ lw_TB := lw_inT (List.mem_of_getElem? (i := 379) (by rfl)) (by rfl)
set_option maxRecDepth 20000 in
theorem wd_co_yX3_hasItem : Cond.code yX3_hasItem cX3_hasItem 3 (some .boolean) ∈ lw_TB := lw_inT (List.mem_of_getElem? (i := 380) (by rfl)) (by rfl)
set_option maxRecDepth 20000 in
theorem wd_ml_RX5_110 : Cond.methodLink RX5 110 yX3_itemOf ∈ lw_TB := lw_inT (List.mem_of_getElem? (i := 381) (by rfl)) (by rfl)
set_option maxRecDepth 20000 in
theorem wd_im_yX3_itemOf : Cond.instanceMethod yX3_itemOf ∈ lw_TB := lw_inT (List.mem_of_getElem? (i := 382) (by rfl)) (by rfl)
set_option maxRecDepth 20000 in
theorem wd_se_yX3_itemOf : Cond.selects RX3 yX3_itemOf yX3_itemOf ∈ lw_TB := lw_inT (List.mem_of_getElem? (i := 383) (by rfl)) (by rfl)
set_option maxRecDepth 20000 in
theorem wd_co_yX3_itemOf : Cond.code yX3_itemOf cX3_itemOf 3 (some .int) ∈ lw_TB := lw_inT (List.mem_of_getElem? (i := 384) (by rfl)) (by rfl)
set_option maxRecDepth 20000 in
theorem wd_ml_RX5_191 : Cond.methodLink RX5 191 yX3_store ∈ lw_TB := lw_inT (List.mem_of_getElem? (i := 385) (by rfl)) (by rfl)
set_option maxRecDepth 20000 in
theorem wd_im_yX3_store : Cond.instanceMethod yX3_store ∈ lw_TB := lw_inT (List.mem_of_getElem? (i := 386) (by rfl)) (by rfl)
set_option maxRecDepth 20000 in
theorem wd_se_yX3_store : Cond.selects RX3 yX3_store yX3_store ∈ lw_TB := lw_inT (List.mem_of_getElem? (i := 387) (by rfl)) (by rfl)
set_option maxRecDepth 20000 in
theorem wd_co_yX3_store : Cond.code yX3_store cX3_store 5 (some .int) ∈ lw_TB := lw_inT (List.mem_of_getElem? (i := 388) (by rfl)) (by rfl)
set_option maxRecDepth 20000 in
theorem wd_ml_RX3_37 : Cond.methodLink RX3 37 yX3_failureAt ∈ lw_TB := lw_inT (List.mem_of_getElem? (i := 389) (by rfl)) (by rfl)
set_option maxRecDepth 20000 in
theorem wd_ml_RX3_41 : Cond.methodLink RX3 41 yX3_isFrozen ∈ lw_TB := lw_inT (List.mem_of_getElem? (i := 390) (by rfl)) (by rfl)
set_option maxRecDepth 20000 in
theorem wd_im_yX3_isFrozen : Cond.instanceMethod yX3_isFrozen ∈ lw_TB := lw_inT (List.mem_of_getElem? (i := 391) (by rfl)) (by rfl)
set_option maxRecDepth 20000 in
theorem wd_se_yX3_isFrozen : Cond.selects RX3 yX3_isFrozen yX3_isFrozen ∈ lw_TB := lw_inT (List.mem_of_getElem? (i := 392) (by rfl)) (by rfl)
set_option maxRecDepth 20000 in
theorem wd_co_yX3_isFrozen : Cond.code yX3_isFrozen cX3_isFrozen 2 (some .boolean) ∈ lw_TB := lw_inT (List.mem_of_getElem? (i := 393) (by rfl)) (by rfl)
set_option maxRecDepth 20000 in
theorem wd_ml_RX5_195 : Cond.methodLink RX5 195 yX5_swapCell ∈ lw_TB := lw_inT (List.mem_of_getElem? (i := 394) (by rfl)) (by rfl)
set_option maxRecDepth 20000 in
theorem wd_im_yX5_swapCell : Cond.instanceMethod yX5_swapCell ∈ lw_TB := lw_inT (List.mem_of_getElem? (i := 396) (by rfl)) (by rfl)
set_option maxRecDepth 20000 in
theorem wd_co_yX5_swapCell : Cond.code yX5_swapCell cX5_swapCell 7 (some .int) ∈ lw_TB := lw_inT (List.mem_of_getElem? (i := 397) (by rfl)) (by rfl)
set_option maxRecDepth 20000 in
theorem wd_ml_RX5_198 : Cond.methodLink RX5 198 yX5_endAtom ∈ lw_TB := lw_inT (List.mem_of_getElem? (i := 398) (by rfl)) (by rfl)
set_option maxRecDepth 20000 in
theorem wd_im_yX5_endAtom : Cond.instanceMethod yX5_endAtom ∈ lw_TB := lw_inT (List.mem_of_getElem? (i := 400) (by rfl)) (by rfl)
set_option maxRecDepth 20000 in
theorem wd_co_yX5_endAtom : Cond.code yX5_endAtom cX5_endAtom 4 (some .int) ∈ lw_TB := lw_inT (List.mem_of_getElem? (i := 401) (by rfl)) (by rfl)
set_option maxRecDepth 20000 in
theorem wd_ml_RX5_254 : Cond.methodLink RX5 254 yX5_isOvertaken ∈ lw_TB := lw_inT (List.mem_of_getElem? (i := 402) (by rfl)) (by rfl)
set_option maxRecDepth 20000 in
theorem wd_im_yX5_isOvertaken : Cond.instanceMethod yX5_isOvertaken ∈ lw_TB := lw_inT (List.mem_of_getElem? (i := 404) (by rfl)) (by rfl)
set_option maxRecDepth 20000 in
theorem wd_co_yX5_isOvertaken : Cond.code yX5_isOvertaken cX5_isOvertaken 3 (some .boolean) ∈ lw_TB := lw_inT (List.mem_of_getElem? (i := 405) (by rfl)) (by rfl)
set_option maxRecDepth 20000 in
theorem wd_ml_RX5_261 : Cond.methodLink RX5 261 yX0_hasRead ∈ lw_TB := lw_inT (List.mem_of_getElem? (i := 406) (by rfl)) (by rfl)
set_option maxRecDepth 20000 in
theorem wd_im_yX0_hasRead : Cond.instanceMethod yX0_hasRead ∈ lw_TB := lw_inT (List.mem_of_getElem? (i := 407) (by rfl)) (by rfl)
set_option maxRecDepth 20000 in
theorem wd_se_yX0_hasRead : Cond.selects RX0 yX0_hasRead yX0_hasRead ∈ lw_TB := lw_inT (List.mem_of_getElem? (i := 408) (by rfl)) (by rfl)
set_option maxRecDepth 20000 in
theorem wd_co_yX0_hasRead : Cond.code yX0_hasRead cX0_hasRead 2 (some .boolean) ∈ lw_TB := lw_inT (List.mem_of_getElem? (i := 409) (by rfl)) (by rfl)
set_option maxRecDepth 20000 in
theorem wd_ml_RX5_264 : Cond.methodLink RX5 264 yX0_firstNumber ∈ lw_TB := lw_inT (List.mem_of_getElem? (i := 410) (by rfl)) (by rfl)
set_option maxRecDepth 20000 in
theorem wd_im_yX0_firstNumber : Cond.instanceMethod yX0_firstNumber ∈ lw_TB := lw_inT (List.mem_of_getElem? (i := 411) (by rfl)) (by rfl)
set_option maxRecDepth 20000 in
theorem wd_se_yX0_firstNumber : Cond.selects RX0 yX0_firstNumber yX0_firstNumber ∈ lw_TB := lw_inT (List.mem_of_getElem? (i := 412) (by rfl)) (by rfl)
set_option maxRecDepth 20000 in
theorem wd_co_yX0_firstNumber : Cond.code yX0_firstNumber cX0_firstNumber 2 (some .int) ∈ lw_TB := lw_inT (List.mem_of_getElem? (i := 413) (by rfl)) (by rfl)
set_option maxRecDepth 20000 in
theorem wd_ml_RX5_258 : Cond.methodLink RX5 258 yX4_beginAnew ∈ lw_TB := lw_inT (List.mem_of_getElem? (i := 414) (by rfl)) (by rfl)
set_option maxRecDepth 20000 in
theorem wd_im_yX4_beginAnew : Cond.instanceMethod yX4_beginAnew ∈ lw_TB := lw_inT (List.mem_of_getElem? (i := 415) (by rfl)) (by rfl)
set_option maxRecDepth 20000 in
theorem wd_se_yX4_beginAnew : Cond.selects RX4 yX4_beginAnew yX4_beginAnew ∈ lw_TB := lw_inT (List.mem_of_getElem? (i := 416) (by rfl)) (by rfl)
set_option maxRecDepth 20000 in
theorem wd_co_yX4_beginAnew : Cond.code yX4_beginAnew cX4_beginAnew 1 none ∈ lw_TB := lw_inT (List.mem_of_getElem? (i := 417) (by rfl)) (by rfl)
set_option maxRecDepth 20000 in
theorem wd_ml_RX4_105 : Cond.methodLink RX4 105 arraycopyName ∈ lw_TB := lw_inT (List.mem_of_getElem? (i := 418) (by rfl)) (by rfl)
set_option maxRecDepth 20000 in
theorem wd_sm_arraycopyName : Cond.static arraycopyName ∈ lw_TB := lw_inT (List.mem_of_getElem? (i := 419) (by rfl)) (by rfl)
set_option maxRecDepth 20000 in
theorem wd_nat_arraycopyName : Cond.native arraycopyName ∈ lw_TB := lw_inT (List.mem_of_getElem? (i := 420) (by rfl)) (by rfl)
set_option maxRecDepth 20000 in
theorem wd_ml_RX4_111 : Cond.methodLink RX4 111 yX0_forget ∈ lw_TB := lw_inT (List.mem_of_getElem? (i := 421) (by rfl)) (by rfl)
set_option maxRecDepth 20000 in
theorem wd_im_yX0_forget : Cond.instanceMethod yX0_forget ∈ lw_TB := lw_inT (List.mem_of_getElem? (i := 422) (by rfl)) (by rfl)
set_option maxRecDepth 20000 in
theorem wd_se_yX0_forget : Cond.selects RX0 yX0_forget yX0_forget ∈ lw_TB := lw_inT (List.mem_of_getElem? (i := 423) (by rfl)) (by rfl)
set_option maxRecDepth 20000 in
theorem wd_co_yX0_forget : Cond.code yX0_forget cX0_forget 2 none ∈ lw_TB := lw_inT (List.mem_of_getElem? (i := 424) (by rfl)) (by rfl)
set_option maxRecDepth 20000 in
theorem wd_ml_RX5_201 : Cond.methodLink RX5 201 yX3_make ∈ lw_TB := lw_inT (List.mem_of_getElem? (i := 425) (by rfl)) (by rfl)
set_option maxRecDepth 20000 in
theorem wd_im_yX3_make : Cond.instanceMethod yX3_make ∈ lw_TB := lw_inT (List.mem_of_getElem? (i := 426) (by rfl)) (by rfl)
set_option maxRecDepth 20000 in
theorem wd_se_yX3_make : Cond.selects RX3 yX3_make yX3_make ∈ lw_TB := lw_inT (List.mem_of_getElem? (i := 427) (by rfl)) (by rfl)
set_option maxRecDepth 20000 in
theorem wd_co_yX3_make : Cond.code yX3_make cX3_make 3 (some .int) ∈ lw_TB := lw_inT (List.mem_of_getElem? (i := 428) (by rfl)) (by rfl)
set_option maxRecDepth 20000 in
theorem wd_ml_RX3_44 : Cond.methodLink RX3 44 yJ7_fill_fda19 ∈ lw_TB := lw_inT (List.mem_of_getElem? (i := 429) (by rfl)) (by rfl)
set_option maxRecDepth 20000 in
theorem wd_sm_yJ7_fill_fda19 : Cond.static yJ7_fill_fda19 ∈ lw_TB := lw_inT (List.mem_of_getElem? (i := 430) (by rfl)) (by rfl)
set_option maxRecDepth 20000 in
theorem wd_co_yJ7_fill_fda19 : Cond.code yJ7_fill_fda19 cJ7_fill_fda19 5 none ∈ lw_TB := lw_inT (List.mem_of_getElem? (i := 431) (by rfl)) (by rfl)
set_option maxRecDepth 20000 in
theorem wd_ml_RJ7_13 : Cond.methodLink RJ7 13 yJ7_rangeCheck_23922 ∈ lw_TB := lw_inT (List.mem_of_getElem? (i := 432) (by rfl)) (by rfl)
set_option maxRecDepth 20000 in
theorem wd_sm_yJ7_rangeCheck_23922 : Cond.static yJ7_rangeCheck_23922 ∈ lw_TB := lw_inT (List.mem_of_getElem? (i := 433) (by rfl)) (by rfl)
set_option maxRecDepth 20000 in
theorem wd_co_yJ7_rangeCheck_23922 : Cond.code yJ7_rangeCheck_23922 cJ7_rangeCheck_23922 3 none ∈ lw_TB := lw_inT (List.mem_of_getElem? (i := 434) (by rfl)) (by rfl)
set_option maxRecDepth 20000 in
theorem wd_ml_RX5_204 : Cond.methodLink RX5 204 yX3_freeze ∈ lw_TB := lw_inT (List.mem_of_getElem? (i := 435) (by rfl)) (by rfl)
set_option maxRecDepth 20000 in
theorem wd_im_yX3_freeze : Cond.instanceMethod yX3_freeze ∈ lw_TB := lw_inT (List.mem_of_getElem? (i := 436) (by rfl)) (by rfl)
set_option maxRecDepth 20000 in
theorem wd_se_yX3_freeze : Cond.selects RX3 yX3_freeze yX3_freeze ∈ lw_TB := lw_inT (List.mem_of_getElem? (i := 437) (by rfl)) (by rfl)
set_option maxRecDepth 20000 in
theorem wd_co_yX3_freeze : Cond.code yX3_freeze cX3_freeze 2 (some .int) ∈ lw_TB := lw_inT (List.mem_of_getElem? (i := 438) (by rfl)) (by rfl)
set_option maxRecDepth 20000 in
theorem wd_ml_RX5_207 : Cond.methodLink RX5 207 yX1_defer ∈ lw_TB := lw_inT (List.mem_of_getElem? (i := 439) (by rfl)) (by rfl)
set_option maxRecDepth 20000 in
theorem wd_im_yX1_defer : Cond.instanceMethod yX1_defer ∈ lw_TB := lw_inT (List.mem_of_getElem? (i := 440) (by rfl)) (by rfl)
set_option maxRecDepth 20000 in
theorem wd_se_yX1_defer : Cond.selects RX1 yX1_defer yX1_defer ∈ lw_TB := lw_inT (List.mem_of_getElem? (i := 441) (by rfl)) (by rfl)
set_option maxRecDepth 20000 in
theorem wd_co_yX1_defer : Cond.code yX1_defer cX1_defer 3 none ∈ lw_TB := lw_inT (List.mem_of_getElem? (i := 442) (by rfl)) (by rfl)
set_option maxRecDepth 20000 in
theorem wd_ml_RX5_210 : Cond.methodLink RX5 210 yX4_performAlone ∈ lw_TB := lw_inT (List.mem_of_getElem? (i := 443) (by rfl)) (by rfl)
set_option maxRecDepth 20000 in
theorem wd_im_yX4_performAlone : Cond.instanceMethod yX4_performAlone ∈ lw_TB := lw_inT (List.mem_of_getElem? (i := 444) (by rfl)) (by rfl)
set_option maxRecDepth 20000 in
theorem wd_se_yX4_performAlone : Cond.selects RX4 yX4_performAlone yX4_performAlone ∈ lw_TB := lw_inT (List.mem_of_getElem? (i := 445) (by rfl)) (by rfl)
set_option maxRecDepth 20000 in
theorem wd_co_yX4_performAlone : Cond.code yX4_performAlone cX4_performAlone 5 (some .int) ∈ lw_TB := lw_inT (List.mem_of_getElem? (i := 446) (by rfl)) (by rfl)
set_option maxRecDepth 20000 in
theorem wd_ml_RX4_73 : Cond.methodLink RX4 73 yX4_keep ∈ lw_TB := lw_inT (List.mem_of_getElem? (i := 447) (by rfl)) (by rfl)
set_option maxRecDepth 20000 in
theorem wd_ml_RX4_77 : Cond.methodLink RX4 77 yX4_held ∈ lw_TB := lw_inT (List.mem_of_getElem? (i := 448) (by rfl)) (by rfl)
set_option maxRecDepth 20000 in
theorem wd_ml_RX4_81 : Cond.methodLink RX4 81 yX4_divide ∈ lw_TB := lw_inT (List.mem_of_getElem? (i := 449) (by rfl)) (by rfl)
set_option maxRecDepth 20000 in
theorem wd_im_yX4_divide : Cond.instanceMethod yX4_divide ∈ lw_TB := lw_inT (List.mem_of_getElem? (i := 451) (by rfl)) (by rfl)
set_option maxRecDepth 20000 in
theorem wd_co_yX4_divide : Cond.code yX4_divide cX4_divide 4 (some .int) ∈ lw_TB := lw_inT (List.mem_of_getElem? (i := 452) (by rfl)) (by rfl)
set_option maxRecDepth 20000 in
theorem wd_ml_RX4_88 : Cond.methodLink RX4 88 yX4_beginAtom ∈ lw_TB := lw_inT (List.mem_of_getElem? (i := 453) (by rfl)) (by rfl)
set_option maxRecDepth 20000 in
theorem wd_im_yX4_beginAtom : Cond.instanceMethod yX4_beginAtom ∈ lw_TB := lw_inT (List.mem_of_getElem? (i := 455) (by rfl)) (by rfl)
set_option maxRecDepth 20000 in
theorem wd_co_yX4_beginAtom : Cond.code yX4_beginAtom cX4_beginAtom 1 (some .int) ∈ lw_TB := lw_inT (List.mem_of_getElem? (i := 456) (by rfl)) (by rfl)
set_option maxRecDepth 20000 in
theorem wd_ml_RX4_92 : Cond.methodLink RX4 92 yX4_openTry ∈ lw_TB := lw_inT (List.mem_of_getElem? (i := 457) (by rfl)) (by rfl)
set_option maxRecDepth 20000 in
theorem wd_im_yX4_openTry : Cond.instanceMethod yX4_openTry ∈ lw_TB := lw_inT (List.mem_of_getElem? (i := 459) (by rfl)) (by rfl)
set_option maxRecDepth 20000 in
theorem wd_co_yX4_openTry : Cond.code yX4_openTry cX4_openTry 2 (some .int) ∈ lw_TB := lw_inT (List.mem_of_getElem? (i := 460) (by rfl)) (by rfl)
set_option maxRecDepth 20000 in
theorem wd_ml_RX4_95 : Cond.methodLink RX4 95 yX4_closeTry ∈ lw_TB := lw_inT (List.mem_of_getElem? (i := 461) (by rfl)) (by rfl)
set_option maxRecDepth 20000 in
theorem wd_im_yX4_closeTry : Cond.instanceMethod yX4_closeTry ∈ lw_TB := lw_inT (List.mem_of_getElem? (i := 463) (by rfl)) (by rfl)
set_option maxRecDepth 20000 in
theorem wd_co_yX4_closeTry : Cond.code yX4_closeTry cX4_closeTry 1 (some .int) ∈ lw_TB := lw_inT (List.mem_of_getElem? (i := 464) (by rfl)) (by rfl)
set_option maxRecDepth 20000 in
theorem wd_ml_RX5_160 : Cond.methodLink RX5 160 yX4_fail ∈ lw_TB := lw_inT (List.mem_of_getElem? (i := 465) (by rfl)) (by rfl)
set_option maxRecDepth 20000 in
theorem wd_im_yX4_fail : Cond.instanceMethod yX4_fail ∈ lw_TB := lw_inT (List.mem_of_getElem? (i := 466) (by rfl)) (by rfl)
set_option maxRecDepth 20000 in
theorem wd_se_yX4_fail : Cond.selects RX4 yX4_fail yX4_fail ∈ lw_TB := lw_inT (List.mem_of_getElem? (i := 467) (by rfl)) (by rfl)
set_option maxRecDepth 20000 in
theorem wd_co_yX4_fail : Cond.code yX4_fail cX4_fail 2 none ∈ lw_TB := lw_inT (List.mem_of_getElem? (i := 468) (by rfl)) (by rfl)
set_option maxRecDepth 20000 in
theorem wd_ml_RL_23 : Cond.methodLink RL 23 yX5_play ∈ lw_TB := lw_inT (List.mem_of_getElem? (i := 469) (by rfl)) (by rfl)
set_option maxRecDepth 20000 in
theorem wd_im_yX5_play : Cond.instanceMethod yX5_play ∈ lw_TB := lw_inT (List.mem_of_getElem? (i := 470) (by rfl)) (by rfl)
set_option maxRecDepth 20000 in
theorem wd_se_yX5_play : Cond.selects RX5 yX5_play yX5_play ∈ lw_TB := lw_inT (List.mem_of_getElem? (i := 471) (by rfl)) (by rfl)
set_option maxRecDepth 20000 in
theorem wd_co_yX5_play : Cond.code yX5_play cX5_play 6 (some .int) ∈ lw_TB := lw_inT (List.mem_of_getElem? (i := 472) (by rfl)) (by rfl)
set_option maxRecDepth 20000 in
theorem wd_ct_RX5_61 : Cond.constant RX5 61 1103515245 ∈ lw_TB := lw_inT (List.mem_of_getElem? (i := 473) (by rfl)) (by rfl)
set_option maxRecDepth 20000 in
theorem wd_ml_RX5_62 : Cond.methodLink RX5 62 yX5_drawn ∈ lw_TB := lw_inT (List.mem_of_getElem? (i := 474) (by rfl)) (by rfl)
set_option maxRecDepth 20000 in
theorem wd_im_yX5_drawn : Cond.instanceMethod yX5_drawn ∈ lw_TB := lw_inT (List.mem_of_getElem? (i := 476) (by rfl)) (by rfl)
set_option maxRecDepth 20000 in
theorem wd_co_yX5_drawn : Cond.code yX5_drawn cX5_drawn 5 (some (.object "MutableCells$Strand")) ∈ lw_TB := lw_inT (List.mem_of_getElem? (i := 477) (by rfl)) (by rfl)
set_option maxRecDepth 20000 in
theorem wd_ml_RX5_150 : Cond.methodLink RX5 150 yX5_goes ∈ lw_TB := lw_inT (List.mem_of_getElem? (i := 478) (by rfl)) (by rfl)
set_option maxRecDepth 20000 in
theorem wd_im_yX5_goes : Cond.instanceMethod yX5_goes ∈ lw_TB := lw_inT (List.mem_of_getElem? (i := 480) (by rfl)) (by rfl)
set_option maxRecDepth 20000 in
theorem wd_co_yX5_goes : Cond.code yX5_goes cX5_goes 3 (some .boolean) ∈ lw_TB := lw_inT (List.mem_of_getElem? (i := 481) (by rfl)) (by rfl)
set_option maxRecDepth 20000 in
theorem wd_ml_RL_28 : Cond.methodLink RL 28 yX5_told ∈ lw_TB := lw_inT (List.mem_of_getElem? (i := 482) (by rfl)) (by rfl)
set_option maxRecDepth 20000 in
theorem wd_im_yX5_told : Cond.instanceMethod yX5_told ∈ lw_TB := lw_inT (List.mem_of_getElem? (i := 483) (by rfl)) (by rfl)
set_option maxRecDepth 20000 in
theorem wd_se_yX5_told : Cond.selects RX5 yX5_told yX5_told ∈ lw_TB := lw_inT (List.mem_of_getElem? (i := 484) (by rfl)) (by rfl)
set_option maxRecDepth 20000 in
theorem wd_co_yX5_told : Cond.code yX5_told cX5_told 4 (some .int) ∈ lw_TB := lw_inT (List.mem_of_getElem? (i := 485) (by rfl)) (by rfl)
set_option maxRecDepth 20000 in
theorem wd_ml_RL_32 : Cond.methodLink RL 32 yX5_register ∈ lw_TB := lw_inT (List.mem_of_getElem? (i := 486) (by rfl)) (by rfl)
set_option maxRecDepth 20000 in
theorem wd_im_yX5_register : Cond.instanceMethod yX5_register ∈ lw_TB := lw_inT (List.mem_of_getElem? (i := 487) (by rfl)) (by rfl)
set_option maxRecDepth 20000 in
theorem wd_se_yX5_register : Cond.selects RX5 yX5_register yX5_register ∈ lw_TB := lw_inT (List.mem_of_getElem? (i := 488) (by rfl)) (by rfl)
set_option maxRecDepth 20000 in
theorem wd_co_yX5_register : Cond.code yX5_register cX5_register 4 (some .int) ∈ lw_TB := lw_inT (List.mem_of_getElem? (i := 489) (by rfl)) (by rfl)
set_option maxRecDepth 20000 in
theorem wd_ml_RL_36 : Cond.methodLink RL 36 yX5_cell ∈ lw_TB := lw_inT (List.mem_of_getElem? (i := 490) (by rfl)) (by rfl)
set_option maxRecDepth 20000 in
theorem wd_im_yX5_cell : Cond.instanceMethod yX5_cell ∈ lw_TB := lw_inT (List.mem_of_getElem? (i := 491) (by rfl)) (by rfl)
set_option maxRecDepth 20000 in
theorem wd_se_yX5_cell : Cond.selects RX5 yX5_cell yX5_cell ∈ lw_TB := lw_inT (List.mem_of_getElem? (i := 492) (by rfl)) (by rfl)
set_option maxRecDepth 20000 in
theorem wd_co_yX5_cell : Cond.code yX5_cell cX5_cell 2 (some .int) ∈ lw_TB := lw_inT (List.mem_of_getElem? (i := 493) (by rfl)) (by rfl)
set_option maxRecDepth 20000 in
theorem wd_ml_RL_40 : Cond.methodLink RL 40 yX5_lazy ∈ lw_TB := lw_inT (List.mem_of_getElem? (i := 494) (by rfl)) (by rfl)
set_option maxRecDepth 20000 in
theorem wd_im_yX5_lazy : Cond.instanceMethod yX5_lazy ∈ lw_TB := lw_inT (List.mem_of_getElem? (i := 495) (by rfl)) (by rfl)
set_option maxRecDepth 20000 in
theorem wd_se_yX5_lazy : Cond.selects RX5 yX5_lazy yX5_lazy ∈ lw_TB := lw_inT (List.mem_of_getElem? (i := 496) (by rfl)) (by rfl)
set_option maxRecDepth 20000 in
theorem wd_co_yX5_lazy : Cond.code yX5_lazy cX5_lazy 2 (some .int) ∈ lw_TB := lw_inT (List.mem_of_getElem? (i := 497) (by rfl)) (by rfl)
set_option maxRecDepth 20000 in
theorem wd_ml_RL_44 : Cond.methodLink RL 44 yX5_size ∈ lw_TB := lw_inT (List.mem_of_getElem? (i := 498) (by rfl)) (by rfl)
set_option maxRecDepth 20000 in
theorem wd_im_yX5_size : Cond.instanceMethod yX5_size ∈ lw_TB := lw_inT (List.mem_of_getElem? (i := 499) (by rfl)) (by rfl)
set_option maxRecDepth 20000 in
theorem wd_se_yX5_size : Cond.selects RX5 yX5_size yX5_size ∈ lw_TB := lw_inT (List.mem_of_getElem? (i := 500) (by rfl)) (by rfl)
set_option maxRecDepth 20000 in
theorem wd_co_yX5_size : Cond.code yX5_size cX5_size 2 (some .int) ∈ lw_TB := lw_inT (List.mem_of_getElem? (i := 501) (by rfl)) (by rfl)
set_option maxRecDepth 20000 in
theorem wd_ml_RX5_107 : Cond.methodLink RX5 107 yX3_length ∈ lw_TB := lw_inT (List.mem_of_getElem? (i := 502) (by rfl)) (by rfl)
set_option maxRecDepth 20000 in
theorem wd_ml_RL_48 : Cond.methodLink RL 48 yX5_item ∈ lw_TB := lw_inT (List.mem_of_getElem? (i := 503) (by rfl)) (by rfl)
set_option maxRecDepth 20000 in
theorem wd_im_yX5_item : Cond.instanceMethod yX5_item ∈ lw_TB := lw_inT (List.mem_of_getElem? (i := 504) (by rfl)) (by rfl)
set_option maxRecDepth 20000 in
theorem wd_se_yX5_item : Cond.selects RX5 yX5_item yX5_item ∈ lw_TB := lw_inT (List.mem_of_getElem? (i := 505) (by rfl)) (by rfl)
set_option maxRecDepth 20000 in
theorem wd_co_yX5_item : Cond.code yX5_item cX5_item 3 (some .int) ∈ lw_TB := lw_inT (List.mem_of_getElem? (i := 506) (by rfl)) (by rfl)
set_option maxRecDepth 20000 in
theorem wd_ml_RL_52 : Cond.methodLink RL 52 yX5_frozen ∈ lw_TB := lw_inT (List.mem_of_getElem? (i := 507) (by rfl)) (by rfl)
set_option maxRecDepth 20000 in
theorem wd_im_yX5_frozen : Cond.instanceMethod yX5_frozen ∈ lw_TB := lw_inT (List.mem_of_getElem? (i := 508) (by rfl)) (by rfl)
set_option maxRecDepth 20000 in
theorem wd_se_yX5_frozen : Cond.selects RX5 yX5_frozen yX5_frozen ∈ lw_TB := lw_inT (List.mem_of_getElem? (i := 509) (by rfl)) (by rfl)
set_option maxRecDepth 20000 in
theorem wd_co_yX5_frozen : Cond.code yX5_frozen cX5_frozen 2 (some .int) ∈ lw_TB := lw_inT (List.mem_of_getElem? (i := 510) (by rfl)) (by rfl)
set_option maxRecDepth 20000 in
theorem wd_ml_RX5_114 : Cond.methodLink RX5 114 yX3_isFrozen ∈ lw_TB := lw_inT (List.mem_of_getElem? (i := 511) (by rfl)) (by rfl)
set_option maxRecDepth 20000 in
theorem wd_ml_RL_56 : Cond.methodLink RL 56 yX5_put ∈ lw_TB := lw_inT (List.mem_of_getElem? (i := 512) (by rfl)) (by rfl)
set_option maxRecDepth 20000 in
theorem wd_im_yX5_put : Cond.instanceMethod yX5_put ∈ lw_TB := lw_inT (List.mem_of_getElem? (i := 513) (by rfl)) (by rfl)
set_option maxRecDepth 20000 in
theorem wd_se_yX5_put : Cond.selects RX5 yX5_put yX5_put ∈ lw_TB := lw_inT (List.mem_of_getElem? (i := 514) (by rfl)) (by rfl)
set_option maxRecDepth 20000 in
theorem wd_co_yX5_put : Cond.code yX5_put cX5_put 4 (some .int) ∈ lw_TB := lw_inT (List.mem_of_getElem? (i := 515) (by rfl)) (by rfl)
set_option maxRecDepth 20000 in
theorem wd_ml_RX5_117 : Cond.methodLink RX5 117 yX1_hold ∈ lw_TB := lw_inT (List.mem_of_getElem? (i := 516) (by rfl)) (by rfl)
set_option maxRecDepth 20000 in
theorem wd_ml_RL_60 : Cond.methodLink RL 60 yX5_writes ∈ lw_TB := lw_inT (List.mem_of_getElem? (i := 517) (by rfl)) (by rfl)
set_option maxRecDepth 20000 in
theorem wd_im_yX5_writes : Cond.instanceMethod yX5_writes ∈ lw_TB := lw_inT (List.mem_of_getElem? (i := 518) (by rfl)) (by rfl)
set_option maxRecDepth 20000 in
theorem wd_se_yX5_writes : Cond.selects RX5 yX5_writes yX5_writes ∈ lw_TB := lw_inT (List.mem_of_getElem? (i := 519) (by rfl)) (by rfl)
set_option maxRecDepth 20000 in
theorem wd_co_yX5_writes : Cond.code yX5_writes cX5_writes 1 (some .int) ∈ lw_TB := lw_inT (List.mem_of_getElem? (i := 520) (by rfl)) (by rfl)
set_option maxRecDepth 20000 in
theorem wd_ml_RL_65 : Cond.methodLink RL 65 yX5_write ∈ lw_TB := lw_inT (List.mem_of_getElem? (i := 521) (by rfl)) (by rfl)
set_option maxRecDepth 20000 in
theorem wd_im_yX5_write : Cond.instanceMethod yX5_write ∈ lw_TB := lw_inT (List.mem_of_getElem? (i := 522) (by rfl)) (by rfl)
set_option maxRecDepth 20000 in
theorem wd_se_yX5_write : Cond.selects RX5 yX5_write yX5_write ∈ lw_TB := lw_inT (List.mem_of_getElem? (i := 523) (by rfl)) (by rfl)
set_option maxRecDepth 20000 in
theorem wd_co_yX5_write : Cond.code yX5_write cX5_write 3 (some .int) ∈ lw_TB := lw_inT (List.mem_of_getElem? (i := 524) (by rfl)) (by rfl)
set_option maxRecDepth 20000 in
theorem wd_ml_RX5_130 : Cond.methodLink RX5 130 yX2_tell ∈ lw_TB := lw_inT (List.mem_of_getElem? (i := 525) (by rfl)) (by rfl)
set_option maxRecDepth 20000 in
theorem wd_im_yX2_tell : Cond.instanceMethod yX2_tell ∈ lw_TB := lw_inT (List.mem_of_getElem? (i := 526) (by rfl)) (by rfl)
set_option maxRecDepth 20000 in
theorem wd_se_yX2_tell : Cond.selects RX2 yX2_tell yX2_tell ∈ lw_TB := lw_inT (List.mem_of_getElem? (i := 527) (by rfl)) (by rfl)
set_option maxRecDepth 20000 in
theorem wd_co_yX2_tell : Cond.code yX2_tell cX2_tell 4 (some .int) ∈ lw_TB := lw_inT (List.mem_of_getElem? (i := 528) (by rfl)) (by rfl)
set_option maxRecDepth 20000 in
theorem wd_ml_RL_69 : Cond.methodLink RL 69 yX5_again ∈ lw_TB := lw_inT (List.mem_of_getElem? (i := 529) (by rfl)) (by rfl)
set_option maxRecDepth 20000 in
theorem wd_im_yX5_again : Cond.instanceMethod yX5_again ∈ lw_TB := lw_inT (List.mem_of_getElem? (i := 530) (by rfl)) (by rfl)
set_option maxRecDepth 20000 in
theorem wd_se_yX5_again : Cond.selects RX5 yX5_again yX5_again ∈ lw_TB := lw_inT (List.mem_of_getElem? (i := 531) (by rfl)) (by rfl)
set_option maxRecDepth 20000 in
theorem wd_co_yX5_again : Cond.code yX5_again cX5_again 1 (some .int) ∈ lw_TB := lw_inT (List.mem_of_getElem? (i := 532) (by rfl)) (by rfl)
set_option maxRecDepth 20000 in
theorem wd_ml_RX5_133 : Cond.methodLink RX5 133 yX5_restart ∈ lw_TB := lw_inT (List.mem_of_getElem? (i := 533) (by rfl)) (by rfl)
set_option maxRecDepth 20000 in
theorem wd_im_yX5_restart : Cond.instanceMethod yX5_restart ∈ lw_TB := lw_inT (List.mem_of_getElem? (i := 535) (by rfl)) (by rfl)
set_option maxRecDepth 20000 in
theorem wd_co_yX5_restart : Cond.code yX5_restart cX5_restart 5 (some .int) ∈ lw_TB := lw_inT (List.mem_of_getElem? (i := 536) (by rfl)) (by rfl)
set_option maxRecDepth 20000 in
theorem wd_ml_RX5_140 : Cond.methodLink RX5 140 yX1_reset ∈ lw_TB := lw_inT (List.mem_of_getElem? (i := 537) (by rfl)) (by rfl)
set_option maxRecDepth 20000 in
theorem wd_ml_RX5_143 : Cond.methodLink RX5 143 yX3_reset ∈ lw_TB := lw_inT (List.mem_of_getElem? (i := 538) (by rfl)) (by rfl)
set_option maxRecDepth 20000 in
theorem wd_ml_RX5_144 : Cond.methodLink RX5 144 yX4_reset ∈ lw_TB := lw_inT (List.mem_of_getElem? (i := 539) (by rfl)) (by rfl)
set_option maxRecDepth 20000 in
theorem wd_im_yX4_reset : Cond.instanceMethod yX4_reset ∈ lw_TB := lw_inT (List.mem_of_getElem? (i := 540) (by rfl)) (by rfl)
set_option maxRecDepth 20000 in
theorem wd_se_yX4_reset : Cond.selects RX4 yX4_reset yX4_reset ∈ lw_TB := lw_inT (List.mem_of_getElem? (i := 541) (by rfl)) (by rfl)
set_option maxRecDepth 20000 in
theorem wd_co_yX4_reset : Cond.code yX4_reset cX4_reset 2 none ∈ lw_TB := lw_inT (List.mem_of_getElem? (i := 542) (by rfl)) (by rfl)
set_option maxRecDepth 20000 in
theorem wd_ml_RX4_44 : Cond.methodLink RX4 44 yJ7_fill_53178 ∈ lw_TB := lw_inT (List.mem_of_getElem? (i := 543) (by rfl)) (by rfl)
set_option maxRecDepth 20000 in
theorem wd_ml_RL_73 : Cond.methodLink RL 73 yX5_clear ∈ lw_TB := lw_inT (List.mem_of_getElem? (i := 544) (by rfl)) (by rfl)
set_option maxRecDepth 20000 in
theorem wd_im_yX5_clear : Cond.instanceMethod yX5_clear ∈ lw_TB := lw_inT (List.mem_of_getElem? (i := 545) (by rfl)) (by rfl)
set_option maxRecDepth 20000 in
theorem wd_se_yX5_clear : Cond.selects RX5 yX5_clear yX5_clear ∈ lw_TB := lw_inT (List.mem_of_getElem? (i := 546) (by rfl)) (by rfl)
set_option maxRecDepth 20000 in
theorem wd_co_yX5_clear : Cond.code yX5_clear cX5_clear 1 (some .int) ∈ lw_TB := lw_inT (List.mem_of_getElem? (i := 547) (by rfl)) (by rfl)
set_option maxRecDepth 20000 in
theorem wd_cl_RL_10 : Cond.classLink RL 10 RX6 ∈ lw_TB := lw_inT (List.mem_of_getElem? (i := 548) (by rfl)) (by rfl)
set_option maxRecDepth 20000 in
theorem wd_ist_RX6 : Cond.instantiable RX6 34 ∈ lw_TB := lw_inT (List.mem_of_getElem? (i := 549) (by rfl)) (by rfl)
set_option maxRecDepth 20000 in
theorem wd_ml_RL_12 : Cond.methodLink RL 12 yX6_init ∈ lw_TB := lw_inT (List.mem_of_getElem? (i := 550) (by rfl)) (by rfl)
set_option maxRecDepth 20000 in
theorem wd_im_yX6_init : Cond.instanceMethod yX6_init ∈ lw_TB := lw_inT (List.mem_of_getElem? (i := 551) (by rfl)) (by rfl)
set_option maxRecDepth 20000 in
theorem wd_co_yX6_init : Cond.code yX6_init cX6_init 1 none ∈ lw_TB := lw_inT (List.mem_of_getElem? (i := 552) (by rfl)) (by rfl)
set_option maxRecDepth 20000 in
theorem wd_ml_RX6_1 : Cond.methodLink RX6 1 objectInit ∈ lw_TB := lw_inT (List.mem_of_getElem? (i := 553) (by rfl)) (by rfl)
set_option maxRecDepth 20000 in
theorem wd_ml_RX6_104 : Cond.methodLink RX6 104 yX6_begin ∈ lw_TB := lw_inT (List.mem_of_getElem? (i := 554) (by rfl)) (by rfl)
set_option maxRecDepth 20000 in
theorem wd_im_yX6_begin : Cond.instanceMethod yX6_begin ∈ lw_TB := lw_inT (List.mem_of_getElem? (i := 556) (by rfl)) (by rfl)
set_option maxRecDepth 20000 in
theorem wd_co_yX6_begin : Cond.code yX6_begin cX6_begin 3 none ∈ lw_TB := lw_inT (List.mem_of_getElem? (i := 557) (by rfl)) (by rfl)
set_option maxRecDepth 20000 in
theorem wd_fl_RX6_181 : Cond.fieldLink RX6 181 "MutableCellsModel" "failures" "I" ∈ lw_TB := lw_inT (List.mem_of_getElem? (i := 558) (by rfl)) (by rfl)
set_option maxRecDepth 20000 in
theorem wd_fl_RX6_7 : Cond.fieldLink RX6 7 "MutableCellsModel" "cells" "[I" ∈ lw_TB := lw_inT (List.mem_of_getElem? (i := 559) (by rfl)) (by rfl)
set_option maxRecDepth 20000 in
theorem wd_fl_RX6_13 : Cond.fieldLink RX6 13 "MutableCellsModel" "isLazy" "[Z" ∈ lw_TB := lw_inT (List.mem_of_getElem? (i := 560) (by rfl)) (by rfl)
set_option maxRecDepth 20000 in
theorem wd_fl_RX6_17 : Cond.fieldLink RX6 17 "MutableCellsModel" "isRead" "[Z" ∈ lw_TB := lw_inT (List.mem_of_getElem? (i := 561) (by rfl)) (by rfl)
set_option maxRecDepth 20000 in
theorem wd_fl_RX6_20 : Cond.fieldLink RX6 20 "MutableCellsModel" "sizes" "[I" ∈ lw_TB := lw_inT (List.mem_of_getElem? (i := 562) (by rfl)) (by rfl)
set_option maxRecDepth 20000 in
theorem wd_fl_RX6_23 : Cond.fieldLink RX6 23 "MutableCellsModel" "items" "[I" ∈ lw_TB := lw_inT (List.mem_of_getElem? (i := 563) (by rfl)) (by rfl)
set_option maxRecDepth 20000 in
theorem wd_fl_RX6_26 : Cond.fieldLink RX6 26 "MutableCellsModel" "isFrozen" "[Z" ∈ lw_TB := lw_inT (List.mem_of_getElem? (i := 564) (by rfl)) (by rfl)
set_option maxRecDepth 20000 in
theorem wd_fl_RX6_29 : Cond.fieldLink RX6 29 "MutableCellsModel" "many" "[I" ∈ lw_TB := lw_inT (List.mem_of_getElem? (i := 565) (by rfl)) (by rfl)
set_option maxRecDepth 20000 in
theorem wd_fl_RX6_32 : Cond.fieldLink RX6 32 "MutableCellsModel" "kind" "[I" ∈ lw_TB := lw_inT (List.mem_of_getElem? (i := 566) (by rfl)) (by rfl)
set_option maxRecDepth 20000 in
theorem wd_fl_RX6_35 : Cond.fieldLink RX6 35 "MutableCellsModel" "actX" "[I" ∈ lw_TB := lw_inT (List.mem_of_getElem? (i := 567) (by rfl)) (by rfl)
set_option maxRecDepth 20000 in
theorem wd_fl_RX6_38 : Cond.fieldLink RX6 38 "MutableCellsModel" "actY" "[I" ∈ lw_TB := lw_inT (List.mem_of_getElem? (i := 568) (by rfl)) (by rfl)
set_option maxRecDepth 20000 in
theorem wd_fl_RX6_41 : Cond.fieldLink RX6 41 "MutableCellsModel" "actZ" "[I" ∈ lw_TB := lw_inT (List.mem_of_getElem? (i := 569) (by rfl)) (by rfl)
set_option maxRecDepth 20000 in
theorem wd_fl_RX6_44 : Cond.fieldLink RX6 44 "MutableCellsModel" "registers" "[I" ∈ lw_TB := lw_inT (List.mem_of_getElem? (i := 570) (by rfl)) (by rfl)
set_option maxRecDepth 20000 in
theorem wd_fl_RX6_47 : Cond.fieldLink RX6 47 "MutableCellsModel" "place" "[I" ∈ lw_TB := lw_inT (List.mem_of_getElem? (i := 571) (by rfl)) (by rfl)
set_option maxRecDepth 20000 in
theorem wd_fl_RX6_50 : Cond.fieldLink RX6 50 "MutableCellsModel" "failedBy" "[I" ∈ lw_TB := lw_inT (List.mem_of_getElem? (i := 572) (by rfl)) (by rfl)
set_option maxRecDepth 20000 in
theorem wd_fl_RX6_53 : Cond.fieldLink RX6 53 "MutableCellsModel" "hasFailed" "[Z" ∈ lw_TB := lw_inT (List.mem_of_getElem? (i := 573) (by rfl)) (by rfl)
set_option maxRecDepth 20000 in
theorem wd_fl_RX6_56 : Cond.fieldLink RX6 56 "MutableCellsModel" "turns" "[I" ∈ lw_TB := lw_inT (List.mem_of_getElem? (i := 574) (by rfl)) (by rfl)
set_option maxRecDepth 20000 in
theorem wd_fl_RX6_59 : Cond.fieldLink RX6 59 "MutableCellsModel" "anew" "[I" ∈ lw_TB := lw_inT (List.mem_of_getElem? (i := 575) (by rfl)) (by rfl)
set_option maxRecDepth 20000 in
theorem wd_fl_RX6_62 : Cond.fieldLink RX6 62 "MutableCellsModel" "tries" "[I" ∈ lw_TB := lw_inT (List.mem_of_getElem? (i := 576) (by rfl)) (by rfl)
set_option maxRecDepth 20000 in
theorem wd_fl_RX6_65 : Cond.fieldLink RX6 65 "MutableCellsModel" "tryPlace" "[I" ∈ lw_TB := lw_inT (List.mem_of_getElem? (i := 577) (by rfl)) (by rfl)
set_option maxRecDepth 20000 in
theorem wd_fl_RX6_68 : Cond.fieldLink RX6 68 "MutableCellsModel" "isAtom" "[Z" ∈ lw_TB := lw_inT (List.mem_of_getElem? (i := 578) (by rfl)) (by rfl)
set_option maxRecDepth 20000 in
theorem wd_fl_RX6_71 : Cond.fieldLink RX6 71 "MutableCellsModel" "atomTries" "[I" ∈ lw_TB := lw_inT (List.mem_of_getElem? (i := 579) (by rfl)) (by rfl)
set_option maxRecDepth 20000 in
theorem wd_fl_RX6_74 : Cond.fieldLink RX6 74 "MutableCellsModel" "atomPlace" "[I" ∈ lw_TB := lw_inT (List.mem_of_getElem? (i := 580) (by rfl)) (by rfl)
set_option maxRecDepth 20000 in
theorem wd_fl_RX6_77 : Cond.fieldLink RX6 77 "MutableCellsModel" "atomRegisters" "[I" ∈ lw_TB := lw_inT (List.mem_of_getElem? (i := 581) (by rfl)) (by rfl)
set_option maxRecDepth 20000 in
theorem wd_fl_RX6_80 : Cond.fieldLink RX6 80 "MutableCellsModel" "wasRead" "[Z" ∈ lw_TB := lw_inT (List.mem_of_getElem? (i := 582) (by rfl)) (by rfl)
set_option maxRecDepth 20000 in
theorem wd_fl_RX6_83 : Cond.fieldLink RX6 83 "MutableCellsModel" "firstRead" "[I" ∈ lw_TB := lw_inT (List.mem_of_getElem? (i := 583) (by rfl)) (by rfl)
set_option maxRecDepth 20000 in
theorem wd_fl_RX6_86 : Cond.fieldLink RX6 86 "MutableCellsModel" "wasPut" "[Z" ∈ lw_TB := lw_inT (List.mem_of_getElem? (i := 584) (by rfl)) (by rfl)
set_option maxRecDepth 20000 in
theorem wd_fl_RX6_89 : Cond.fieldLink RX6 89 "MutableCellsModel" "putThere" "[I" ∈ lw_TB := lw_inT (List.mem_of_getElem? (i := 585) (by rfl)) (by rfl)
set_option maxRecDepth 20000 in
theorem wd_fl_RX6_107 : Cond.fieldLink RX6 107 "MutableCellsModel" "writes" "I" ∈ lw_TB := lw_inT (List.mem_of_getElem? (i := 586) (by rfl)) (by rfl)
set_option maxRecDepth 20000 in
theorem wd_fl_RX6_92 : Cond.fieldLink RX6 92 "MutableCellsModel" "writeThread" "[I" ∈ lw_TB := lw_inT (List.mem_of_getElem? (i := 587) (by rfl)) (by rfl)
set_option maxRecDepth 20000 in
theorem wd_fl_RX6_95 : Cond.fieldLink RX6 95 "MutableCellsModel" "writeCell" "[I" ∈ lw_TB := lw_inT (List.mem_of_getElem? (i := 588) (by rfl)) (by rfl)
set_option maxRecDepth 20000 in
theorem wd_fl_RX6_98 : Cond.fieldLink RX6 98 "MutableCellsModel" "writeNumbe\x72" "[I" ∈ lw_TB := lw_inT (List.mem_of_getElem? (i := 589) (by rfl)) (by rfl)
set_option maxRecDepth 20000 in
theorem wd_fl_RX6_133 : Cond.fieldLink RX6 133 "MutableCellsModel" "failure" "I" ∈ lw_TB := lw_inT (List.mem_of_getElem? (i := 590) (by rfl)) (by rfl)
set_option maxRecDepth 20000 in
theorem wd_fl_RX6_101 : Cond.fieldLink RX6 101 "MutableCellsModel" "chain" "[I" ∈ lw_TB := lw_inT (List.mem_of_getElem? (i := 591) (by rfl)) (by rfl)
set_option maxRecDepth 20000 in
theorem wd_ml_RL_17 : Cond.methodLink RL 17 yX6_act ∈ lw_TB := lw_inT (List.mem_of_getElem? (i := 661) (by rfl)) (by rfl)
set_option maxRecDepth 20000 in
theorem wd_im_yX6_act : Cond.instanceMethod yX6_act ∈ lw_TB := lw_inT (List.mem_of_getElem? (i := 662) (by rfl)) (by rfl)
set_option maxRecDepth 20000 in
theorem wd_se_yX6_act : Cond.selects RX6 yX6_act yX6_act ∈ lw_TB := lw_inT (List.mem_of_getElem? (i := 663) (by rfl)) (by rfl)
set_option maxRecDepth 20000 in
theorem wd_co_yX6_act : Cond.code yX6_act cX6_act 7 (some .int) ∈ lw_TB := lw_inT (List.mem_of_getElem? (i := 664) (by rfl)) (by rfl)
set_option maxRecDepth 20000 in
theorem wd_ml_RX6_111 : Cond.methodLink RX6 111 yX6_within ∈ lw_TB := lw_inT (List.mem_of_getElem? (i := 665) (by rfl)) (by rfl)
set_option maxRecDepth 20000 in
theorem wd_sm_yX6_within : Cond.static yX6_within ∈ lw_TB := lw_inT (List.mem_of_getElem? (i := 666) (by rfl)) (by rfl)
set_option maxRecDepth 20000 in
theorem wd_co_yX6_within : Cond.code yX6_within cX6_within 3 (some .boolean) ∈ lw_TB := lw_inT (List.mem_of_getElem? (i := 667) (by rfl)) (by rfl)
set_option maxRecDepth 20000 in
theorem wd_ml_RX6_125 : Cond.methodLink RX6 125 yX6_fits ∈ lw_TB := lw_inT (List.mem_of_getElem? (i := 668) (by rfl)) (by rfl)
set_option maxRecDepth 20000 in
theorem wd_sm_yX6_fits : Cond.static yX6_fits ∈ lw_TB := lw_inT (List.mem_of_getElem? (i := 669) (by rfl)) (by rfl)
set_option maxRecDepth 20000 in
theorem wd_co_yX6_fits : Cond.code yX6_fits cX6_fits 4 (some .boolean) ∈ lw_TB := lw_inT (List.mem_of_getElem? (i := 670) (by rfl)) (by rfl)
set_option maxRecDepth 20000 in
theorem wd_ml_RX6_115 : Cond.methodLink RX6 115 yX6_isRegister ∈ lw_TB := lw_inT (List.mem_of_getElem? (i := 671) (by rfl)) (by rfl)
set_option maxRecDepth 20000 in
theorem wd_sm_yX6_isRegister : Cond.static yX6_isRegister ∈ lw_TB := lw_inT (List.mem_of_getElem? (i := 672) (by rfl)) (by rfl)
set_option maxRecDepth 20000 in
theorem wd_co_yX6_isRegister : Cond.code yX6_isRegister cX6_isRegister 1 (some .boolean) ∈ lw_TB := lw_inT (List.mem_of_getElem? (i := 673) (by rfl)) (by rfl)
set_option maxRecDepth 20000 in
theorem wd_ml_RX6_119 : Cond.methodLink RX6 119 yX6_isCell ∈ lw_TB := lw_inT (List.mem_of_getElem? (i := 674) (by rfl)) (by rfl)
set_option maxRecDepth 20000 in
theorem wd_sm_yX6_isCell : Cond.static yX6_isCell ∈ lw_TB := lw_inT (List.mem_of_getElem? (i := 675) (by rfl)) (by rfl)
set_option maxRecDepth 20000 in
theorem wd_co_yX6_isCell : Cond.code yX6_isCell cX6_isCell 1 (some .boolean) ∈ lw_TB := lw_inT (List.mem_of_getElem? (i := 676) (by rfl)) (by rfl)
set_option maxRecDepth 20000 in
theorem wd_ml_RX6_122 : Cond.methodLink RX6 122 yX6_isPlaceIn ∈ lw_TB := lw_inT (List.mem_of_getElem? (i := 677) (by rfl)) (by rfl)
set_option maxRecDepth 20000 in
theorem wd_sm_yX6_isPlaceIn : Cond.static yX6_isPlaceIn ∈ lw_TB := lw_inT (List.mem_of_getElem? (i := 678) (by rfl)) (by rfl)
set_option maxRecDepth 20000 in
theorem wd_co_yX6_isPlaceIn : Cond.code yX6_isPlaceIn cX6_isPlaceIn 1 (some .boolean) ∈ lw_TB := lw_inT (List.mem_of_getElem? (i := 679) (by rfl)) (by rfl)
set_option maxRecDepth 20000 in
theorem wd_ml_RL_22 : Cond.methodLink RL 22 yX6_turn ∈ lw_TB := lw_inT (List.mem_of_getElem? (i := 680) (by rfl)) (by rfl)
set_option maxRecDepth 20000 in
theorem wd_im_yX6_turn : Cond.instanceMethod yX6_turn ∈ lw_TB := lw_inT (List.mem_of_getElem? (i := 681) (by rfl)) (by rfl)
set_option maxRecDepth 20000 in
theorem wd_se_yX6_turn : Cond.selects RX6 yX6_turn yX6_turn ∈ lw_TB := lw_inT (List.mem_of_getElem? (i := 682) (by rfl)) (by rfl)
set_option maxRecDepth 20000 in
theorem wd_co_yX6_turn : Cond.code yX6_turn cX6_turn 2 (some .int) ∈ lw_TB := lw_inT (List.mem_of_getElem? (i := 683) (by rfl)) (by rfl)
set_option maxRecDepth 20000 in
theorem wd_ml_RX6_190 : Cond.methodLink RX6 190 yX6_stateOf ∈ lw_TB := lw_inT (List.mem_of_getElem? (i := 684) (by rfl)) (by rfl)
set_option maxRecDepth 20000 in
theorem wd_im_yX6_stateOf : Cond.instanceMethod yX6_stateOf ∈ lw_TB := lw_inT (List.mem_of_getElem? (i := 686) (by rfl)) (by rfl)
set_option maxRecDepth 20000 in
theorem wd_co_yX6_stateOf : Cond.code yX6_stateOf cX6_stateOf 2 (some .int) ∈ lw_TB := lw_inT (List.mem_of_getElem? (i := 687) (by rfl)) (by rfl)
set_option maxRecDepth 20000 in
theorem wd_ml_RX6_193 : Cond.methodLink RX6 193 yX6_doTurn ∈ lw_TB := lw_inT (List.mem_of_getElem? (i := 688) (by rfl)) (by rfl)
set_option maxRecDepth 20000 in
theorem wd_im_yX6_doTurn : Cond.instanceMethod yX6_doTurn ∈ lw_TB := lw_inT (List.mem_of_getElem? (i := 690) (by rfl)) (by rfl)
set_option maxRecDepth 20000 in
theorem wd_co_yX6_doTurn : Cond.code yX6_doTurn cX6_doTurn 3 none ∈ lw_TB := lw_inT (List.mem_of_getElem? (i := 691) (by rfl)) (by rfl)
set_option maxRecDepth 20000 in
theorem wd_ml_RX6_184 : Cond.methodLink RX6 184 yX6_doAct ∈ lw_TB := lw_inT (List.mem_of_getElem? (i := 692) (by rfl)) (by rfl)
set_option maxRecDepth 20000 in
theorem wd_im_yX6_doAct : Cond.instanceMethod yX6_doAct ∈ lw_TB := lw_inT (List.mem_of_getElem? (i := 694) (by rfl)) (by rfl)
set_option maxRecDepth 20000 in
theorem wd_co_yX6_doAct : Cond.code yX6_doAct cX6_doAct 9 (some .int) ∈ lw_TB := lw_inT (List.mem_of_getElem? (i := 695) (by rfl)) (by rfl)
set_option maxRecDepth 20000 in
theorem wd_ml_RX6_147 : Cond.methodLink RX6 147 yX6_give ∈ lw_TB := lw_inT (List.mem_of_getElem? (i := 696) (by rfl)) (by rfl)
set_option maxRecDepth 20000 in
theorem wd_im_yX6_give : Cond.instanceMethod yX6_give ∈ lw_TB := lw_inT (List.mem_of_getElem? (i := 698) (by rfl)) (by rfl)
set_option maxRecDepth 20000 in
theorem wd_co_yX6_give : Cond.code yX6_give cX6_give 4 none ∈ lw_TB := lw_inT (List.mem_of_getElem? (i := 699) (by rfl)) (by rfl)
set_option maxRecDepth 20000 in
theorem wd_ml_RX6_150 : Cond.methodLink RX6 150 yX6_read ∈ lw_TB := lw_inT (List.mem_of_getElem? (i := 700) (by rfl)) (by rfl)
set_option maxRecDepth 20000 in
theorem wd_im_yX6_read : Cond.instanceMethod yX6_read ∈ lw_TB := lw_inT (List.mem_of_getElem? (i := 702) (by rfl)) (by rfl)
set_option maxRecDepth 20000 in
theorem wd_co_yX6_read : Cond.code yX6_read cX6_read 4 (some .int) ∈ lw_TB := lw_inT (List.mem_of_getElem? (i := 703) (by rfl)) (by rfl)
set_option maxRecDepth 20000 in
theorem wd_ml_RX6_139 : Cond.methodLink RX6 139 yX6_readPlain ∈ lw_TB := lw_inT (List.mem_of_getElem? (i := 704) (by rfl)) (by rfl)
set_option maxRecDepth 20000 in
theorem wd_im_yX6_readPlain : Cond.instanceMethod yX6_readPlain ∈ lw_TB := lw_inT (List.mem_of_getElem? (i := 706) (by rfl)) (by rfl)
set_option maxRecDepth 20000 in
theorem wd_co_yX6_readPlain : Cond.code yX6_readPlain cX6_readPlain 8 (some .int) ∈ lw_TB := lw_inT (List.mem_of_getElem? (i := 707) (by rfl)) (by rfl)
set_option maxRecDepth 20000 in
theorem wd_ml_RX6_136 : Cond.methodLink RX6 136 yX6_write ∈ lw_TB := lw_inT (List.mem_of_getElem? (i := 708) (by rfl)) (by rfl)
set_option maxRecDepth 20000 in
theorem wd_im_yX6_write : Cond.instanceMethod yX6_write ∈ lw_TB := lw_inT (List.mem_of_getElem? (i := 710) (by rfl)) (by rfl)
set_option maxRecDepth 20000 in
theorem wd_co_yX6_write : Cond.code yX6_write cX6_write 4 none ∈ lw_TB := lw_inT (List.mem_of_getElem? (i := 711) (by rfl)) (by rfl)
set_option maxRecDepth 20000 in
theorem wd_ml_RX6_129 : Cond.methodLink RX6 129 yX6_note ∈ lw_TB := lw_inT (List.mem_of_getElem? (i := 712) (by rfl)) (by rfl)
set_option maxRecDepth 20000 in
theorem wd_im_yX6_note : Cond.instanceMethod yX6_note ∈ lw_TB := lw_inT (List.mem_of_getElem? (i := 714) (by rfl)) (by rfl)
set_option maxRecDepth 20000 in
theorem wd_co_yX6_note : Cond.code yX6_note cX6_note 4 none ∈ lw_TB := lw_inT (List.mem_of_getElem? (i := 715) (by rfl)) (by rfl)
set_option maxRecDepth 20000 in
theorem wd_ml_RX6_153 : Cond.methodLink RX6 153 yX6_r ∈ lw_TB := lw_inT (List.mem_of_getElem? (i := 716) (by rfl)) (by rfl)
set_option maxRecDepth 20000 in
theorem wd_im_yX6_r : Cond.instanceMethod yX6_r ∈ lw_TB := lw_inT (List.mem_of_getElem? (i := 718) (by rfl)) (by rfl)
set_option maxRecDepth 20000 in
theorem wd_co_yX6_r : Cond.code yX6_r cX6_r 3 (some .int) ∈ lw_TB := lw_inT (List.mem_of_getElem? (i := 719) (by rfl)) (by rfl)
set_option maxRecDepth 20000 in
theorem wd_ml_RX6_156 : Cond.methodLink RX6 156 yX6_lay ∈ lw_TB := lw_inT (List.mem_of_getElem? (i := 720) (by rfl)) (by rfl)
set_option maxRecDepth 20000 in
theorem wd_im_yX6_lay : Cond.instanceMethod yX6_lay ∈ lw_TB := lw_inT (List.mem_of_getElem? (i := 722) (by rfl)) (by rfl)
set_option maxRecDepth 20000 in
theorem wd_co_yX6_lay : Cond.code yX6_lay cX6_lay 4 none ∈ lw_TB := lw_inT (List.mem_of_getElem? (i := 723) (by rfl)) (by rfl)
set_option maxRecDepth 20000 in
theorem wd_ml_RX6_163 : Cond.methodLink RX6 163 yX6_compute ∈ lw_TB := lw_inT (List.mem_of_getElem? (i := 724) (by rfl)) (by rfl)
set_option maxRecDepth 20000 in
theorem wd_im_yX6_compute : Cond.instanceMethod yX6_compute ∈ lw_TB := lw_inT (List.mem_of_getElem? (i := 726) (by rfl)) (by rfl)
set_option maxRecDepth 20000 in
theorem wd_co_yX6_compute : Cond.code yX6_compute cX6_compute 6 none ∈ lw_TB := lw_inT (List.mem_of_getElem? (i := 727) (by rfl)) (by rfl)
set_option maxRecDepth 20000 in
theorem wd_ml_RX6_167 : Cond.methodLink RX6 167 yX6_swap ∈ lw_TB := lw_inT (List.mem_of_getElem? (i := 728) (by rfl)) (by rfl)
set_option maxRecDepth 20000 in
theorem wd_im_yX6_swap : Cond.instanceMethod yX6_swap ∈ lw_TB := lw_inT (List.mem_of_getElem? (i := 730) (by rfl)) (by rfl)
set_option maxRecDepth 20000 in
theorem wd_co_yX6_swap : Cond.code yX6_swap cX6_swap 7 none ∈ lw_TB := lw_inT (List.mem_of_getElem? (i := 731) (by rfl)) (by rfl)
set_option maxRecDepth 20000 in
theorem wd_ml_RX6_171 : Cond.methodLink RX6 171 yX6_beginAtom ∈ lw_TB := lw_inT (List.mem_of_getElem? (i := 732) (by rfl)) (by rfl)
set_option maxRecDepth 20000 in
theorem wd_im_yX6_beginAtom : Cond.instanceMethod yX6_beginAtom ∈ lw_TB := lw_inT (List.mem_of_getElem? (i := 734) (by rfl)) (by rfl)
set_option maxRecDepth 20000 in
theorem wd_co_yX6_beginAtom : Cond.code yX6_beginAtom cX6_beginAtom 3 none ∈ lw_TB := lw_inT (List.mem_of_getElem? (i := 735) (by rfl)) (by rfl)
set_option maxRecDepth 20000 in
theorem wd_ml_RX6_143 : Cond.methodLink RX6 143 yX6_clearAtom ∈ lw_TB := lw_inT (List.mem_of_getElem? (i := 736) (by rfl)) (by rfl)
set_option maxRecDepth 20000 in
theorem wd_im_yX6_clearAtom : Cond.instanceMethod yX6_clearAtom ∈ lw_TB := lw_inT (List.mem_of_getElem? (i := 738) (by rfl)) (by rfl)
set_option maxRecDepth 20000 in
theorem wd_co_yX6_clearAtom : Cond.code yX6_clearAtom cX6_clearAtom 3 none ∈ lw_TB := lw_inT (List.mem_of_getElem? (i := 739) (by rfl)) (by rfl)
set_option maxRecDepth 20000 in
theorem wd_ml_RX6_174 : Cond.methodLink RX6 174 yX6_endAtom ∈ lw_TB := lw_inT (List.mem_of_getElem? (i := 740) (by rfl)) (by rfl)
set_option maxRecDepth 20000 in
theorem wd_im_yX6_endAtom : Cond.instanceMethod yX6_endAtom ∈ lw_TB := lw_inT (List.mem_of_getElem? (i := 742) (by rfl)) (by rfl)
set_option maxRecDepth 20000 in
theorem wd_co_yX6_endAtom : Cond.code yX6_endAtom cX6_endAtom 5 (some .int) ∈ lw_TB := lw_inT (List.mem_of_getElem? (i := 743) (by rfl)) (by rfl)
set_option maxRecDepth 20000 in
theorem wd_ml_RX6_178 : Cond.methodLink RX6 178 yX6_rows ∈ lw_TB := lw_inT (List.mem_of_getElem? (i := 744) (by rfl)) (by rfl)
set_option maxRecDepth 20000 in
theorem wd_im_yX6_rows : Cond.instanceMethod yX6_rows ∈ lw_TB := lw_inT (List.mem_of_getElem? (i := 746) (by rfl)) (by rfl)
set_option maxRecDepth 20000 in
theorem wd_co_yX6_rows : Cond.code yX6_rows cX6_rows 8 none ∈ lw_TB := lw_inT (List.mem_of_getElem? (i := 747) (by rfl)) (by rfl)
set_option maxRecDepth 20000 in
theorem wd_ml_RX6_159 : Cond.methodLink RX6 159 yX6_checkItem ∈ lw_TB := lw_inT (List.mem_of_getElem? (i := 748) (by rfl)) (by rfl)
set_option maxRecDepth 20000 in
theorem wd_im_yX6_checkItem : Cond.instanceMethod yX6_checkItem ∈ lw_TB := lw_inT (List.mem_of_getElem? (i := 750) (by rfl)) (by rfl)
set_option maxRecDepth 20000 in
theorem wd_co_yX6_checkItem : Cond.code yX6_checkItem cX6_checkItem 3 none ∈ lw_TB := lw_inT (List.mem_of_getElem? (i := 751) (by rfl)) (by rfl)
set_option maxRecDepth 20000 in
theorem wd_ml_RX6_187 : Cond.methodLink RX6 187 yX6_fail ∈ lw_TB := lw_inT (List.mem_of_getElem? (i := 752) (by rfl)) (by rfl)
set_option maxRecDepth 20000 in
theorem wd_im_yX6_fail : Cond.instanceMethod yX6_fail ∈ lw_TB := lw_inT (List.mem_of_getElem? (i := 754) (by rfl)) (by rfl)
set_option maxRecDepth 20000 in
theorem wd_co_yX6_fail : Cond.code yX6_fail cX6_fail 2 none ∈ lw_TB := lw_inT (List.mem_of_getElem? (i := 755) (by rfl)) (by rfl)
set_option maxRecDepth 20000 in
theorem wd_ml_RL_27 : Cond.methodLink RL 27 yX6_play ∈ lw_TB := lw_inT (List.mem_of_getElem? (i := 756) (by rfl)) (by rfl)
set_option maxRecDepth 20000 in
theorem wd_im_yX6_play : Cond.instanceMethod yX6_play ∈ lw_TB := lw_inT (List.mem_of_getElem? (i := 757) (by rfl)) (by rfl)
set_option maxRecDepth 20000 in
theorem wd_se_yX6_play : Cond.selects RX6 yX6_play yX6_play ∈ lw_TB := lw_inT (List.mem_of_getElem? (i := 758) (by rfl)) (by rfl)
set_option maxRecDepth 20000 in
theorem wd_co_yX6_play : Cond.code yX6_play cX6_play 9 (some .int) ∈ lw_TB := lw_inT (List.mem_of_getElem? (i := 759) (by rfl)) (by rfl)
set_option maxRecDepth 20000 in
theorem wd_ct_RX6_196 : Cond.constant RX6 196 1103515245 ∈ lw_TB := lw_inT (List.mem_of_getElem? (i := 760) (by rfl)) (by rfl)
set_option maxRecDepth 20000 in
theorem wd_ml_RL_31 : Cond.methodLink RL 31 yX6_told ∈ lw_TB := lw_inT (List.mem_of_getElem? (i := 761) (by rfl)) (by rfl)
set_option maxRecDepth 20000 in
theorem wd_im_yX6_told : Cond.instanceMethod yX6_told ∈ lw_TB := lw_inT (List.mem_of_getElem? (i := 762) (by rfl)) (by rfl)
set_option maxRecDepth 20000 in
theorem wd_se_yX6_told : Cond.selects RX6 yX6_told yX6_told ∈ lw_TB := lw_inT (List.mem_of_getElem? (i := 763) (by rfl)) (by rfl)
set_option maxRecDepth 20000 in
theorem wd_co_yX6_told : Cond.code yX6_told cX6_told 3 (some .int) ∈ lw_TB := lw_inT (List.mem_of_getElem? (i := 764) (by rfl)) (by rfl)
set_option maxRecDepth 20000 in
theorem wd_ml_RL_35 : Cond.methodLink RL 35 yX6_register ∈ lw_TB := lw_inT (List.mem_of_getElem? (i := 765) (by rfl)) (by rfl)
set_option maxRecDepth 20000 in
theorem wd_im_yX6_register : Cond.instanceMethod yX6_register ∈ lw_TB := lw_inT (List.mem_of_getElem? (i := 766) (by rfl)) (by rfl)
set_option maxRecDepth 20000 in
theorem wd_se_yX6_register : Cond.selects RX6 yX6_register yX6_register ∈ lw_TB := lw_inT (List.mem_of_getElem? (i := 767) (by rfl)) (by rfl)
set_option maxRecDepth 20000 in
theorem wd_co_yX6_register : Cond.code yX6_register cX6_register 3 (some .int) ∈ lw_TB := lw_inT (List.mem_of_getElem? (i := 768) (by rfl)) (by rfl)
set_option maxRecDepth 20000 in
theorem wd_ml_RL_39 : Cond.methodLink RL 39 yX6_cell ∈ lw_TB := lw_inT (List.mem_of_getElem? (i := 769) (by rfl)) (by rfl)
set_option maxRecDepth 20000 in
theorem wd_im_yX6_cell : Cond.instanceMethod yX6_cell ∈ lw_TB := lw_inT (List.mem_of_getElem? (i := 770) (by rfl)) (by rfl)
set_option maxRecDepth 20000 in
theorem wd_se_yX6_cell : Cond.selects RX6 yX6_cell yX6_cell ∈ lw_TB := lw_inT (List.mem_of_getElem? (i := 771) (by rfl)) (by rfl)
set_option maxRecDepth 20000 in
theorem wd_co_yX6_cell : Cond.code yX6_cell cX6_cell 2 (some .int) ∈ lw_TB := lw_inT (List.mem_of_getElem? (i := 772) (by rfl)) (by rfl)
set_option maxRecDepth 20000 in
theorem wd_ml_RL_43 : Cond.methodLink RL 43 yX6_lazy ∈ lw_TB := lw_inT (List.mem_of_getElem? (i := 773) (by rfl)) (by rfl)
set_option maxRecDepth 20000 in
theorem wd_im_yX6_lazy : Cond.instanceMethod yX6_lazy ∈ lw_TB := lw_inT (List.mem_of_getElem? (i := 774) (by rfl)) (by rfl)
set_option maxRecDepth 20000 in
theorem wd_se_yX6_lazy : Cond.selects RX6 yX6_lazy yX6_lazy ∈ lw_TB := lw_inT (List.mem_of_getElem? (i := 775) (by rfl)) (by rfl)
set_option maxRecDepth 20000 in
theorem wd_co_yX6_lazy : Cond.code yX6_lazy cX6_lazy 2 (some .int) ∈ lw_TB := lw_inT (List.mem_of_getElem? (i := 776) (by rfl)) (by rfl)
set_option maxRecDepth 20000 in
theorem wd_ml_RL_47 : Cond.methodLink RL 47 yX6_size ∈ lw_TB := lw_inT (List.mem_of_getElem? (i := 777) (by rfl)) (by rfl)
set_option maxRecDepth 20000 in
theorem wd_im_yX6_size : Cond.instanceMethod yX6_size ∈ lw_TB := lw_inT (List.mem_of_getElem? (i := 778) (by rfl)) (by rfl)
set_option maxRecDepth 20000 in
theorem wd_se_yX6_size : Cond.selects RX6 yX6_size yX6_size ∈ lw_TB := lw_inT (List.mem_of_getElem? (i := 779) (by rfl)) (by rfl)
set_option maxRecDepth 20000 in
theorem wd_co_yX6_size : Cond.code yX6_size cX6_size 2 (some .int) ∈ lw_TB := lw_inT (List.mem_of_getElem? (i := 780) (by rfl)) (by rfl)
set_option maxRecDepth 20000 in
theorem wd_ml_RL_51 : Cond.methodLink RL 51 yX6_item ∈ lw_TB := lw_inT (List.mem_of_getElem? (i := 781) (by rfl)) (by rfl)
set_option maxRecDepth 20000 in
theorem wd_im_yX6_item : Cond.instanceMethod yX6_item ∈ lw_TB := lw_inT (List.mem_of_getElem? (i := 782) (by rfl)) (by rfl)
set_option maxRecDepth 20000 in
theorem wd_se_yX6_item : Cond.selects RX6 yX6_item yX6_item ∈ lw_TB := lw_inT (List.mem_of_getElem? (i := 783) (by rfl)) (by rfl)
set_option maxRecDepth 20000 in
theorem wd_co_yX6_item : Cond.code yX6_item cX6_item 3 (some .int) ∈ lw_TB := lw_inT (List.mem_of_getElem? (i := 784) (by rfl)) (by rfl)
set_option maxRecDepth 20000 in
theorem wd_ml_RL_55 : Cond.methodLink RL 55 yX6_frozen ∈ lw_TB := lw_inT (List.mem_of_getElem? (i := 785) (by rfl)) (by rfl)
set_option maxRecDepth 20000 in
theorem wd_im_yX6_frozen : Cond.instanceMethod yX6_frozen ∈ lw_TB := lw_inT (List.mem_of_getElem? (i := 786) (by rfl)) (by rfl)
set_option maxRecDepth 20000 in
theorem wd_se_yX6_frozen : Cond.selects RX6 yX6_frozen yX6_frozen ∈ lw_TB := lw_inT (List.mem_of_getElem? (i := 787) (by rfl)) (by rfl)
set_option maxRecDepth 20000 in
theorem wd_co_yX6_frozen : Cond.code yX6_frozen cX6_frozen 2 (some .int) ∈ lw_TB := lw_inT (List.mem_of_getElem? (i := 788) (by rfl)) (by rfl)
set_option maxRecDepth 20000 in
theorem wd_ml_RL_59 : Cond.methodLink RL 59 yX6_put ∈ lw_TB := lw_inT (List.mem_of_getElem? (i := 789) (by rfl)) (by rfl)
set_option maxRecDepth 20000 in
theorem wd_im_yX6_put : Cond.instanceMethod yX6_put ∈ lw_TB := lw_inT (List.mem_of_getElem? (i := 790) (by rfl)) (by rfl)
set_option maxRecDepth 20000 in
theorem wd_se_yX6_put : Cond.selects RX6 yX6_put yX6_put ∈ lw_TB := lw_inT (List.mem_of_getElem? (i := 791) (by rfl)) (by rfl)
set_option maxRecDepth 20000 in
theorem wd_co_yX6_put : Cond.code yX6_put cX6_put 4 (some .int) ∈ lw_TB := lw_inT (List.mem_of_getElem? (i := 792) (by rfl)) (by rfl)
set_option maxRecDepth 20000 in
theorem wd_ml_RL_64 : Cond.methodLink RL 64 yX6_writes ∈ lw_TB := lw_inT (List.mem_of_getElem? (i := 793) (by rfl)) (by rfl)
set_option maxRecDepth 20000 in
theorem wd_im_yX6_writes : Cond.instanceMethod yX6_writes ∈ lw_TB := lw_inT (List.mem_of_getElem? (i := 794) (by rfl)) (by rfl)
set_option maxRecDepth 20000 in
theorem wd_se_yX6_writes : Cond.selects RX6 yX6_writes yX6_writes ∈ lw_TB := lw_inT (List.mem_of_getElem? (i := 795) (by rfl)) (by rfl)
set_option maxRecDepth 20000 in
theorem wd_co_yX6_writes : Cond.code yX6_writes cX6_writes 1 (some .int) ∈ lw_TB := lw_inT (List.mem_of_getElem? (i := 796) (by rfl)) (by rfl)
set_option maxRecDepth 20000 in
theorem wd_ml_RL_68 : Cond.methodLink RL 68 yX6_write_ ∈ lw_TB := lw_inT (List.mem_of_getElem? (i := 797) (by rfl)) (by rfl)
set_option maxRecDepth 20000 in
theorem wd_im_yX6_write_ : Cond.instanceMethod yX6_write_ ∈ lw_TB := lw_inT (List.mem_of_getElem? (i := 798) (by rfl)) (by rfl)
set_option maxRecDepth 20000 in
theorem wd_se_yX6_write_ : Cond.selects RX6 yX6_write_ yX6_write_ ∈ lw_TB := lw_inT (List.mem_of_getElem? (i := 799) (by rfl)) (by rfl)
set_option maxRecDepth 20000 in
theorem wd_co_yX6_write_ : Cond.code yX6_write_ cX6_write_ 5 (some .int) ∈ lw_TB := lw_inT (List.mem_of_getElem? (i := 800) (by rfl)) (by rfl)
set_option maxRecDepth 20000 in
theorem wd_ml_RL_72 : Cond.methodLink RL 72 yX6_again ∈ lw_TB := lw_inT (List.mem_of_getElem? (i := 801) (by rfl)) (by rfl)
set_option maxRecDepth 20000 in
theorem wd_im_yX6_again : Cond.instanceMethod yX6_again ∈ lw_TB := lw_inT (List.mem_of_getElem? (i := 802) (by rfl)) (by rfl)
set_option maxRecDepth 20000 in
theorem wd_se_yX6_again : Cond.selects RX6 yX6_again yX6_again ∈ lw_TB := lw_inT (List.mem_of_getElem? (i := 803) (by rfl)) (by rfl)
set_option maxRecDepth 20000 in
theorem wd_co_yX6_again : Cond.code yX6_again cX6_again 2 (some .int) ∈ lw_TB := lw_inT (List.mem_of_getElem? (i := 804) (by rfl)) (by rfl)
set_option maxRecDepth 20000 in
theorem wd_ml_RL_76 : Cond.methodLink RL 76 yX6_clear ∈ lw_TB := lw_inT (List.mem_of_getElem? (i := 805) (by rfl)) (by rfl)
set_option maxRecDepth 20000 in
theorem wd_im_yX6_clear : Cond.instanceMethod yX6_clear ∈ lw_TB := lw_inT (List.mem_of_getElem? (i := 806) (by rfl)) (by rfl)
set_option maxRecDepth 20000 in
theorem wd_se_yX6_clear : Cond.selects RX6 yX6_clear yX6_clear ∈ lw_TB := lw_inT (List.mem_of_getElem? (i := 807) (by rfl)) (by rfl)
set_option maxRecDepth 20000 in
theorem wd_co_yX6_clear : Cond.code yX6_clear cX6_clear 3 (some .int) ∈ lw_TB := lw_inT (List.mem_of_getElem? (i := 808) (by rfl)) (by rfl)
set_option maxRecDepth 20000 in
theorem wd_ml_RX6_197 : Cond.methodLink RX6 197 yX6_again ∈ lw_TB := lw_inT (List.mem_of_getElem? (i := 809) (by rfl)) (by rfl)
set_option maxRecDepth 20000 in
theorem inX0 : ∀ w ∈ wsX00, w ∈ lw_TB := by
  intro w hw
  obtain ⟨k, hk, rfl⟩ := List.mem_map.mp hw
  have hk := List.mem_range.mp hk
  match k, hk with
  | 0, _ => exact lw_inT (List.mem_of_getElem? (i := 152) (by rfl)) (by rfl)
  | 1, _ => exact lw_inT (List.mem_of_getElem? (i := 154) (by rfl)) (by rfl)
  | 2, _ => exact lw_inT (List.mem_of_getElem? (i := 156) (by rfl)) (by rfl)
  | 3, _ => exact lw_inT (List.mem_of_getElem? (i := 158) (by rfl)) (by rfl)
  | 4, _ => exact lw_inT (List.mem_of_getElem? (i := 160) (by rfl)) (by rfl)
  | 5, _ => exact lw_inT (List.mem_of_getElem? (i := 162) (by rfl)) (by rfl)
  | 6, _ => exact lw_inT (List.mem_of_getElem? (i := 164) (by rfl)) (by rfl)
  | 7, _ => exact lw_inT (List.mem_of_getElem? (i := 166) (by rfl)) (by rfl)
  | k + 8, hk => exact absurd hk (by omega)
set_option maxRecDepth 20000 in
theorem inX1 : ∀ w ∈ wsX10, w ∈ lw_TB := by
  intro w hw
  obtain ⟨k, hk, rfl⟩ := List.mem_map.mp hw
  have hk := List.mem_range.mp hk
  match k, hk with
  | 0, _ => exact lw_inT (List.mem_of_getElem? (i := 98) (by rfl)) (by rfl)
  | 1, _ => exact lw_inT (List.mem_of_getElem? (i := 100) (by rfl)) (by rfl)
  | 2, _ => exact lw_inT (List.mem_of_getElem? (i := 102) (by rfl)) (by rfl)
  | 3, _ => exact lw_inT (List.mem_of_getElem? (i := 104) (by rfl)) (by rfl)
  | k + 4, hk => exact absurd hk (by omega)
set_option maxRecDepth 20000 in
theorem inX2 : ∀ w ∈ wsX20, w ∈ lw_TB := by
  intro w hw
  obtain ⟨k, hk, rfl⟩ := List.mem_map.mp hw
  have hk := List.mem_range.mp hk
  match k, hk with
  | 0, _ => exact lw_inT (List.mem_of_getElem? (i := 74) (by rfl)) (by rfl)
  | 1, _ => exact lw_inT (List.mem_of_getElem? (i := 76) (by rfl)) (by rfl)
  | 2, _ => exact lw_inT (List.mem_of_getElem? (i := 78) (by rfl)) (by rfl)
  | 3, _ => exact lw_inT (List.mem_of_getElem? (i := 80) (by rfl)) (by rfl)
  | 4, _ => exact lw_inT (List.mem_of_getElem? (i := 82) (by rfl)) (by rfl)
  | k + 5, hk => exact absurd hk (by omega)
set_option maxRecDepth 20000 in
theorem inX3 : ∀ w ∈ wsX30, w ∈ lw_TB := by
  intro w hw
  obtain ⟨k, hk, rfl⟩ := List.mem_map.mp hw
  have hk := List.mem_range.mp hk
  match k, hk with
  | 0, _ => exact lw_inT (List.mem_of_getElem? (i := 120) (by rfl)) (by rfl)
  | 1, _ => exact lw_inT (List.mem_of_getElem? (i := 122) (by rfl)) (by rfl)
  | 2, _ => exact lw_inT (List.mem_of_getElem? (i := 124) (by rfl)) (by rfl)
  | k + 3, hk => exact absurd hk (by omega)
set_option maxRecDepth 20000 in
theorem inX4 : ∀ w ∈ wsX40, w ∈ lw_TB := by
  intro w hw
  obtain ⟨k, hk, rfl⟩ := List.mem_map.mp hw
  have hk := List.mem_range.mp hk
  match k, hk with
  | 0, _ => exact lw_inT (List.mem_of_getElem? (i := 197) (by rfl)) (by rfl)
  | 1, _ => exact lw_inT (List.mem_of_getElem? (i := 199) (by rfl)) (by rfl)
  | 2, _ => exact lw_inT (List.mem_of_getElem? (i := 201) (by rfl)) (by rfl)
  | 3, _ => exact lw_inT (List.mem_of_getElem? (i := 203) (by rfl)) (by rfl)
  | 4, _ => exact lw_inT (List.mem_of_getElem? (i := 205) (by rfl)) (by rfl)
  | 5, _ => exact lw_inT (List.mem_of_getElem? (i := 207) (by rfl)) (by rfl)
  | 6, _ => exact lw_inT (List.mem_of_getElem? (i := 209) (by rfl)) (by rfl)
  | 7, _ => exact lw_inT (List.mem_of_getElem? (i := 211) (by rfl)) (by rfl)
  | 8, _ => exact lw_inT (List.mem_of_getElem? (i := 213) (by rfl)) (by rfl)
  | 9, _ => exact lw_inT (List.mem_of_getElem? (i := 215) (by rfl)) (by rfl)
  | 10, _ => exact lw_inT (List.mem_of_getElem? (i := 217) (by rfl)) (by rfl)
  | 11, _ => exact lw_inT (List.mem_of_getElem? (i := 219) (by rfl)) (by rfl)
  | 12, _ => exact lw_inT (List.mem_of_getElem? (i := 221) (by rfl)) (by rfl)
  | 13, _ => exact lw_inT (List.mem_of_getElem? (i := 223) (by rfl)) (by rfl)
  | 14, _ => exact lw_inT (List.mem_of_getElem? (i := 225) (by rfl)) (by rfl)
  | k + 15, hk => exact absurd hk (by omega)
set_option maxRecDepth 20000 in
theorem inX5 : ∀ w ∈ wsX50, w ∈ lw_TB := by
  intro w hw
  obtain ⟨k, hk, rfl⟩ := List.mem_map.mp hw
  have hk := List.mem_range.mp hk
  match k, hk with
  | 0, _ => exact lw_inT (List.mem_of_getElem? (i := 233) (by rfl)) (by rfl)
  | 1, _ => exact lw_inT (List.mem_of_getElem? (i := 235) (by rfl)) (by rfl)
  | 2, _ => exact lw_inT (List.mem_of_getElem? (i := 237) (by rfl)) (by rfl)
  | 3, _ => exact lw_inT (List.mem_of_getElem? (i := 239) (by rfl)) (by rfl)
  | 4, _ => exact lw_inT (List.mem_of_getElem? (i := 241) (by rfl)) (by rfl)
  | k + 5, hk => exact absurd hk (by omega)
set_option maxRecDepth 20000 in
theorem inX6 : ∀ w ∈ wsX60, w ∈ lw_TB := by
  intro w hw
  obtain ⟨k, hk, rfl⟩ := List.mem_map.mp hw
  have hk := List.mem_range.mp hk
  match k, hk with
  | 0, _ => exact lw_inT (List.mem_of_getElem? (i := 592) (by rfl)) (by rfl)
  | 1, _ => exact lw_inT (List.mem_of_getElem? (i := 594) (by rfl)) (by rfl)
  | 2, _ => exact lw_inT (List.mem_of_getElem? (i := 596) (by rfl)) (by rfl)
  | 3, _ => exact lw_inT (List.mem_of_getElem? (i := 598) (by rfl)) (by rfl)
  | 4, _ => exact lw_inT (List.mem_of_getElem? (i := 600) (by rfl)) (by rfl)
  | 5, _ => exact lw_inT (List.mem_of_getElem? (i := 602) (by rfl)) (by rfl)
  | 6, _ => exact lw_inT (List.mem_of_getElem? (i := 604) (by rfl)) (by rfl)
  | 7, _ => exact lw_inT (List.mem_of_getElem? (i := 606) (by rfl)) (by rfl)
  | 8, _ => exact lw_inT (List.mem_of_getElem? (i := 608) (by rfl)) (by rfl)
  | 9, _ => exact lw_inT (List.mem_of_getElem? (i := 610) (by rfl)) (by rfl)
  | 10, _ => exact lw_inT (List.mem_of_getElem? (i := 612) (by rfl)) (by rfl)
  | 11, _ => exact lw_inT (List.mem_of_getElem? (i := 614) (by rfl)) (by rfl)
  | 12, _ => exact lw_inT (List.mem_of_getElem? (i := 616) (by rfl)) (by rfl)
  | 13, _ => exact lw_inT (List.mem_of_getElem? (i := 618) (by rfl)) (by rfl)
  | 14, _ => exact lw_inT (List.mem_of_getElem? (i := 620) (by rfl)) (by rfl)
  | 15, _ => exact lw_inT (List.mem_of_getElem? (i := 622) (by rfl)) (by rfl)
  | 16, _ => exact lw_inT (List.mem_of_getElem? (i := 624) (by rfl)) (by rfl)
  | 17, _ => exact lw_inT (List.mem_of_getElem? (i := 626) (by rfl)) (by rfl)
  | 18, _ => exact lw_inT (List.mem_of_getElem? (i := 628) (by rfl)) (by rfl)
  | 19, _ => exact lw_inT (List.mem_of_getElem? (i := 630) (by rfl)) (by rfl)
  | 20, _ => exact lw_inT (List.mem_of_getElem? (i := 632) (by rfl)) (by rfl)
  | 21, _ => exact lw_inT (List.mem_of_getElem? (i := 634) (by rfl)) (by rfl)
  | 22, _ => exact lw_inT (List.mem_of_getElem? (i := 636) (by rfl)) (by rfl)
  | 23, _ => exact lw_inT (List.mem_of_getElem? (i := 638) (by rfl)) (by rfl)
  | 24, _ => exact lw_inT (List.mem_of_getElem? (i := 640) (by rfl)) (by rfl)
  | 25, _ => exact lw_inT (List.mem_of_getElem? (i := 642) (by rfl)) (by rfl)
  | 26, _ => exact lw_inT (List.mem_of_getElem? (i := 644) (by rfl)) (by rfl)
  | 27, _ => exact lw_inT (List.mem_of_getElem? (i := 646) (by rfl)) (by rfl)
  | 28, _ => exact lw_inT (List.mem_of_getElem? (i := 648) (by rfl)) (by rfl)
  | 29, _ => exact lw_inT (List.mem_of_getElem? (i := 650) (by rfl)) (by rfl)
  | 30, _ => exact lw_inT (List.mem_of_getElem? (i := 652) (by rfl)) (by rfl)
  | 31, _ => exact lw_inT (List.mem_of_getElem? (i := 654) (by rfl)) (by rfl)
  | 32, _ => exact lw_inT (List.mem_of_getElem? (i := 656) (by rfl)) (by rfl)
  | 33, _ => exact lw_inT (List.mem_of_getElem? (i := 658) (by rfl)) (by rfl)
  | k + 34, hk => exact absurd hk (by omega)
def lw_nest : List Cond := [Cond.methodLinkNest RX1 23 yX2_init RX5, Cond.fieldLinkNest RX1 37 "MutableCells$Log" "count" "I" RX5, Cond.fieldLinkNest RX5 125 "MutableCells$Log" "count" "I" RX5, Cond.fieldLinkNest RX5 121 "MutableCells$Cells" "log" "LMutableCells$Log;" RX5, Cond.methodLinkNest RX4 32 yX0_init RX5, Cond.fieldLinkNest RX4 53 "MutableCells$Atom" "open" "Z" RX5, Cond.fieldLinkNest RX5 78 "MutableCells$Atom" "open" "Z" RX5, Cond.fieldLinkNest RX4 101 "MutableCells$Atom" "behindBegin" "I" RX5, Cond.fieldLinkNest RX4 98 "MutableCells$Atom" "trysAhead" "I" RX5, Cond.fieldLinkNest RX5 251 "MutableCells$Atom" "trysAhead" "I" RX5, Cond.fieldLinkNest RX4 104 "MutableCells$Atom" "registers" "[I" RX5, Cond.fieldLinkNest RX5 233 "MutableCells$Strand" "numbe\x72" "I" RX5, Cond.fieldLinkNest RX5 163 "MutableCells$Strand" "kinds" "[I" RX5, Cond.fieldLinkNest RX5 167 "MutableCells$Strand" "xs" "[I" RX5, Cond.fieldLinkNest RX5 170 "MutableCells$Strand" "ys" "[I" RX5, Cond.fieldLinkNest RX5 173 "MutableCells$Strand" "zs" "[I" RX5, Cond.fieldLinkNest RX5 47 "MutableCells$Strand" "acts" "I" RX5, Cond.fieldLinkNest RX5 71 "MutableCells$Strand" "trys" "I" RX5, Cond.fieldLinkNest RX5 74 "MutableCells$Strand" "atom" "LMutableCells$Atom;" RX5, Cond.fieldLinkNest RX5 65 "MutableCells$Strand" "place" "I" RX5, Cond.fieldLinkNest RX5 153 "MutableCells$Strand" "next" "I" RX5, Cond.fieldLinkNest RX5 68 "MutableCells$Strand" "failure" "I" RX5, Cond.fieldLinkNest RX5 40 "MutableCells$Strand" "turns" "I" RX5, Cond.fieldLinkNest RX5 84 "MutableCells$Strand" "anews" "I" RX5, Cond.methodLinkNest RX1 41 yX5_isCell RX5, Cond.methodLinkNest RX0 28 yX5_isCell RX5, Cond.methodLinkNest RX4 69 yX5_isRegister RX5, Cond.methodLinkNest RX3 25 yX5_isRow RX5]
set_option maxRecDepth 20000 in
theorem lw_nest_in : ∀ w ∈ lw_nest, w ∈ lw_tbl := by
  intro w hw
  obtain ⟨k, hk⟩ := List.getElem?_of_mem hw
  match k, hk with
  | 0, hk => cases hk; exact List.mem_of_getElem? (i := 63) (by rfl)
  | 1, hk => cases hk; exact List.mem_of_getElem? (i := 71) (by rfl)
  | 2, hk => cases hk; exact List.mem_of_getElem? (i := 73) (by rfl)
  | 3, hk => cases hk; exact List.mem_of_getElem? (i := 97) (by rfl)
  | 4, hk => cases hk; exact List.mem_of_getElem? (i := 137) (by rfl)
  | 5, hk => cases hk; exact List.mem_of_getElem? (i := 141) (by rfl)
  | 6, hk => cases hk; exact List.mem_of_getElem? (i := 142) (by rfl)
  | 7, hk => cases hk; exact List.mem_of_getElem? (i := 143) (by rfl)
  | 8, hk => cases hk; exact List.mem_of_getElem? (i := 144) (by rfl)
  | 9, hk => cases hk; exact List.mem_of_getElem? (i := 145) (by rfl)
  | 10, hk => cases hk; exact List.mem_of_getElem? (i := 147) (by rfl)
  | 11, hk => cases hk; exact List.mem_of_getElem? (i := 170) (by rfl)
  | 12, hk => cases hk; exact List.mem_of_getElem? (i := 172) (by rfl)
  | 13, hk => cases hk; exact List.mem_of_getElem? (i := 174) (by rfl)
  | 14, hk => cases hk; exact List.mem_of_getElem? (i := 176) (by rfl)
  | 15, hk => cases hk; exact List.mem_of_getElem? (i := 178) (by rfl)
  | 16, hk => cases hk; exact List.mem_of_getElem? (i := 180) (by rfl)
  | 17, hk => cases hk; exact List.mem_of_getElem? (i := 184) (by rfl)
  | 18, hk => cases hk; exact List.mem_of_getElem? (i := 186) (by rfl)
  | 19, hk => cases hk; exact List.mem_of_getElem? (i := 188) (by rfl)
  | 20, hk => cases hk; exact List.mem_of_getElem? (i := 190) (by rfl)
  | 21, hk => cases hk; exact List.mem_of_getElem? (i := 192) (by rfl)
  | 22, hk => cases hk; exact List.mem_of_getElem? (i := 193) (by rfl)
  | 23, hk => cases hk; exact List.mem_of_getElem? (i := 196) (by rfl)
  | 24, hk => cases hk; exact List.mem_of_getElem? (i := 302) (by rfl)
  | 25, hk => cases hk; exact List.mem_of_getElem? (i := 307) (by rfl)
  | 26, hk => cases hk; exact List.mem_of_getElem? (i := 350) (by rfl)
  | 27, hk => cases hk; exact List.mem_of_getElem? (i := 376) (by rfl)
  | k + 28, hk => exact absurd hk (by simp [lw_nest])
theorem wd_nml_RX1_23 : Cond.methodLinkNest RX1 23 yX2_init RX5 ∈ lw_nest := List.mem_of_getElem? (i := 0) (by rfl)
theorem wd_nfl_RX1_37 : Cond.fieldLinkNest RX1 37 "MutableCells$Log" "count" "I" RX5 ∈ lw_nest := List.mem_of_getElem? (i := 1) (by rfl)
theorem wd_nfl_RX5_125 : Cond.fieldLinkNest RX5 125 "MutableCells$Log" "count" "I" RX5 ∈ lw_nest := List.mem_of_getElem? (i := 2) (by rfl)
theorem wd_nfl_RX5_121 : Cond.fieldLinkNest RX5 121 "MutableCells$Cells" "log" "LMutableCells$Log;" RX5 ∈ lw_nest := List.mem_of_getElem? (i := 3) (by rfl)
theorem wd_nml_RX4_32 : Cond.methodLinkNest RX4 32 yX0_init RX5 ∈ lw_nest := List.mem_of_getElem? (i := 4) (by rfl)
theorem wd_nfl_RX4_53 : Cond.fieldLinkNest RX4 53 "MutableCells$Atom" "open" "Z" RX5 ∈ lw_nest := List.mem_of_getElem? (i := 5) (by rfl)
theorem wd_nfl_RX5_78 : Cond.fieldLinkNest RX5 78 "MutableCells$Atom" "open" "Z" RX5 ∈ lw_nest := List.mem_of_getElem? (i := 6) (by rfl)
theorem wd_nfl_RX4_101 : Cond.fieldLinkNest RX4 101 "MutableCells$Atom" "behindBegin" "I" RX5 ∈ lw_nest := List.mem_of_getElem? (i := 7) (by rfl)
theorem wd_nfl_RX4_98 : Cond.fieldLinkNest RX4 98 "MutableCells$Atom" "trysAhead" "I" RX5 ∈ lw_nest := List.mem_of_getElem? (i := 8) (by rfl)
theorem wd_nfl_RX5_251 : Cond.fieldLinkNest RX5 251 "MutableCells$Atom" "trysAhead" "I" RX5 ∈ lw_nest := List.mem_of_getElem? (i := 9) (by rfl)
theorem wd_nfl_RX4_104 : Cond.fieldLinkNest RX4 104 "MutableCells$Atom" "registers" "[I" RX5 ∈ lw_nest := List.mem_of_getElem? (i := 10) (by rfl)
theorem wd_nfl_RX5_233 : Cond.fieldLinkNest RX5 233 "MutableCells$Strand" "numbe\x72" "I" RX5 ∈ lw_nest := List.mem_of_getElem? (i := 11) (by rfl)
theorem wd_nfl_RX5_163 : Cond.fieldLinkNest RX5 163 "MutableCells$Strand" "kinds" "[I" RX5 ∈ lw_nest := List.mem_of_getElem? (i := 12) (by rfl)
theorem wd_nfl_RX5_167 : Cond.fieldLinkNest RX5 167 "MutableCells$Strand" "xs" "[I" RX5 ∈ lw_nest := List.mem_of_getElem? (i := 13) (by rfl)
theorem wd_nfl_RX5_170 : Cond.fieldLinkNest RX5 170 "MutableCells$Strand" "ys" "[I" RX5 ∈ lw_nest := List.mem_of_getElem? (i := 14) (by rfl)
theorem wd_nfl_RX5_173 : Cond.fieldLinkNest RX5 173 "MutableCells$Strand" "zs" "[I" RX5 ∈ lw_nest := List.mem_of_getElem? (i := 15) (by rfl)
theorem wd_nfl_RX5_47 : Cond.fieldLinkNest RX5 47 "MutableCells$Strand" "acts" "I" RX5 ∈ lw_nest := List.mem_of_getElem? (i := 16) (by rfl)
theorem wd_nfl_RX5_71 : Cond.fieldLinkNest RX5 71 "MutableCells$Strand" "trys" "I" RX5 ∈ lw_nest := List.mem_of_getElem? (i := 17) (by rfl)
theorem wd_nfl_RX5_74 : Cond.fieldLinkNest RX5 74 "MutableCells$Strand" "atom" "LMutableCells$Atom;" RX5 ∈ lw_nest := List.mem_of_getElem? (i := 18) (by rfl)
theorem wd_nfl_RX5_65 : Cond.fieldLinkNest RX5 65 "MutableCells$Strand" "place" "I" RX5 ∈ lw_nest := List.mem_of_getElem? (i := 19) (by rfl)
theorem wd_nfl_RX5_153 : Cond.fieldLinkNest RX5 153 "MutableCells$Strand" "next" "I" RX5 ∈ lw_nest := List.mem_of_getElem? (i := 20) (by rfl)
theorem wd_nfl_RX5_68 : Cond.fieldLinkNest RX5 68 "MutableCells$Strand" "failure" "I" RX5 ∈ lw_nest := List.mem_of_getElem? (i := 21) (by rfl)
theorem wd_nfl_RX5_40 : Cond.fieldLinkNest RX5 40 "MutableCells$Strand" "turns" "I" RX5 ∈ lw_nest := List.mem_of_getElem? (i := 22) (by rfl)
theorem wd_nfl_RX5_84 : Cond.fieldLinkNest RX5 84 "MutableCells$Strand" "anews" "I" RX5 ∈ lw_nest := List.mem_of_getElem? (i := 23) (by rfl)
theorem wd_nml_RX1_41 : Cond.methodLinkNest RX1 41 yX5_isCell RX5 ∈ lw_nest := List.mem_of_getElem? (i := 24) (by rfl)
theorem wd_nml_RX0_28 : Cond.methodLinkNest RX0 28 yX5_isCell RX5 ∈ lw_nest := List.mem_of_getElem? (i := 25) (by rfl)
theorem wd_nml_RX4_69 : Cond.methodLinkNest RX4 69 yX5_isRegister RX5 ∈ lw_nest := List.mem_of_getElem? (i := 26) (by rfl)
theorem wd_nml_RX3_25 : Cond.methodLinkNest RX3 25 yX5_isRow RX5 ∈ lw_nest := List.mem_of_getElem? (i := 27) (by rfl)
end
section
/-! states of ints: cell q's number k -/
abbrev mS : Type := Nat → Nat → Int32
def st2 (σ : mS) (q k : Nat) (v : Int32) : mS := fun q' k' => if q' = q ∧ k' = k then v else σ q' k'
theorem st2_q (σ : mS) (q k : Nat) (v : Int32) : st2 σ q k v q = upd (σ q) k v := by funext j; simp [st2, upd]
theorem st2_nq {σ : mS} {q q' k : Nat} {v : Int32} (h : q' ≠ q) : st2 σ q k v q' = σ q' := by funext j; simp [st2, h]
def cp2 (σ : mS) (qs qd n : Nat) : mS := fun q' k' => if q' = qd ∧ k' < n then σ qs k' else σ q' k'
theorem cp2_nq {σ : mS} {qs qd q' n : Nat} (h : q' ≠ qd) : cp2 σ qs qd n q' = σ q' := by funext j; simp [cp2, h]
def ap {α β : Type} (f : α → β) (x : α) : β := f x
/-! the joint world: kind and length of each cell -/
def wKd : List (Nat × Nat) := [(8, 5), (4, 4), (0, 8), (0, 8), (0, 8), (5, 5), (0, 30), (0, 30), (0, 30), (6, 3), (0, 4), (1, 4), (0, 32), (2, 3), (7, 15), (0, 24), (0, 24), (0, 24), (0, 24), (0, 4), (0, 4), (3, 8), (0, 4), (1, 8), (0, 8), (1, 8), (0, 8), (7, 15), (0, 24), (0, 24), (0, 24), (0, 24), (0, 4), (0, 4), (3, 8), (0, 4), (1, 8), (0, 8), (1, 8), (0, 8), (7, 15), (0, 24), (0, 24), (0, 24), (0, 24), (0, 4), (0, 4), (3, 8), (0, 4), (1, 8), (0, 8), (1, 8), (0, 8), (9, 34), (0, 8), (1, 8), (1, 8), (0, 4), (0, 32), (1, 4), (0, 3), (0, 72), (0, 72), (0, 72), (0, 72), (0, 12), (0, 3), (0, 3), (1, 3), (0, 3), (0, 3), (0, 3), (0, 12), (1, 3), (0, 3), (0, 3), (0, 12), (1, 24), (0, 24), (1, 24), (0, 24), (0, 30), (0, 30), (0, 30), (0, 9)]
def wK (q : Nat) : Nat := (wKd.getD q (9999, 0)).1
def wN (q : Nat) : Nat := (wKd.getD q (9999, 0)).2
def oV (ci : Nat) (a : Nat → Nat) (q : Nat) (f : Nat → Int32) : List Value := match ci with
  | 0 => [.int (f 0), .int (f 1), .int (f 2), .ref (a (q + 1)), .ref (a (q + 2)), .ref (a (q + 3)), .ref (a (q + 4)), .ref (a (q + 5))]
  | 1 => [.ref (a (q + 1)), .ref (a (q + 2)), .ref (a (q + 3)), .ref (a (q + 4))]
  | 2 => [.ref (a (q + 1)), .ref (a (q + 2)), .ref (a (q + 3)), .int (f 3), .int (f 4)]
  | 3 => [.ref (a (q + 1)), .ref (a (q + 2)), .ref (a (q + 3))]
  | 4 => [.int (f 0), .ref (a (q + 1)), .ref (a (q + 2)), .ref (a (q + 3)), .ref (a (q + 4)), .int (f 5), .ref (a (q + 5)), .ref (a (q + 6)), .int (f 8), .ref (a (q + 7)), .int (f 10), .int (f 11), .int (f 12), .int (f 13), .int (f 14)]
  | 5 => [.ref (a (q + 1)), .ref (a (q + 9)), .ref (a (q + 13)), .int (f 3), .int (f 4)]
  | _ => [.int (f 0), .ref (a (q + 1)), .ref (a (q + 2)), .ref (a (q + 3)), .ref (a (q + 4)), .ref (a (q + 5)), .ref (a (q + 6)), .ref (a (q + 7)), .ref (a (q + 8)), .ref (a (q + 9)), .ref (a (q + 10)), .ref (a (q + 11)), .ref (a (q + 12)), .ref (a (q + 13)), .ref (a (q + 14)), .ref (a (q + 15)), .ref (a (q + 16)), .ref (a (q + 17)), .ref (a (q + 18)), .ref (a (q + 19)), .ref (a (q + 20)), .ref (a (q + 21)), .ref (a (q + 22)), .ref (a (q + 23)), .ref (a (q + 24)), .ref (a (q + 25)), .ref (a (q + 26)), .ref (a (q + 27)), .int (f 28), .ref (a (q + 28)), .ref (a (q + 29)), .ref (a (q + 30)), .int (f 32), .ref (a (q + 31))]
abbrev gT : Type := va_G × List (ClassId × FieldType) × (ClassId × ClassId × ClassId) × (Nat → Nat) × List Nat
def ad (G : gT) (q : Nat) : Nat := G.2.2.2.1 q
def gI (G : gT) : List Nat := G.2.2.2.2
def gY (G : gT) : List (ClassId × FieldType) := G.2.1
def gC (G : gT) : ClassId × ClassId × ClassId := G.2.2.1
def wE (c : ClassId × ClassId × ClassId) (a : Nat → Nat) (q : Nat) (f : Nat → Int32) : va_E := match wK q with
  | 0 => .inl (c.1, wN q, .inl f)
  | 1 => .inl (c.2.1, wN q, .inl f)
  | 2 => .inl (c.2.2, 3, .inr (.inr (.inr (.inr (fun j => some (a (14 + 13 * j)))))))
  | k + 3 => .inr (k, oV k a q f)
def wD (G : gT) (σ : mS) : va_W := (gI G).map (fun q => (ad G q, wE (gC G) (ad G) q (σ q)))
def mA (G : gT) : Nat → Prop := fun q => ∃ k, k ∈ gI G ∧ q = ad G k
def mP (G : gT) (σ : mS) (H : Heap) : Prop := va_P G.1 vwCl (wD G σ) H
def mQ (G : gT) (κ : Int32 → Option Value) (T : Int32 × mS) : Array Value → State → Outcome → State → Prop := fun _ st oc t => (oc = .returned (κ T.1) ∧ mP G T.2 t.heap) ∧ va_F (mA G) st t
def κI : Int32 → Option Value := fun v => some (.int v)
def κV : Int32 → Option Value := fun _ => none
def κR (G : gT) : Int32 → Option Value := fun v => some (va_rf (if v = -1 then none else some (ad G (14 + 13 * v.toNatClampNeg))))
def rm (d : Nat) : Room := { frames := d, cells := 0, slots := 0, locals := 40 * d }
def mN (U : State) : Prop := ∀ w ∈ lw_nest, va_Nw w U
theorem mN.same {u U : State} (h : u.vm = U.vm) (hN : mN u) : mN U := by
  intro w hw
  refine va_Nw.same ?_ h (hN w hw)
  exact (List.all_eq_true.mp (show lw_nest.all (fun w => w.onTables) = true by decide +kernel)) w hw
theorem mN.warm {s U : State} (hW : s.WarmedH U.vm) (hN : mN s) : mN U := by
  intro w hw
  have h := hN w hw
  obtain ⟨k, hk⟩ := List.getElem?_of_mem hw
  match k, hk with
  | 0, hk => cases hk; exact va_Nw.warmM hW h
  | 1, hk => cases hk; exact va_Nw.warmF hW h
  | 2, hk => cases hk; exact va_Nw.warmF hW h
  | 3, hk => cases hk; exact va_Nw.warmF hW h
  | 4, hk => cases hk; exact va_Nw.warmM hW h
  | 5, hk => cases hk; exact va_Nw.warmF hW h
  | 6, hk => cases hk; exact va_Nw.warmF hW h
  | 7, hk => cases hk; exact va_Nw.warmF hW h
  | 8, hk => cases hk; exact va_Nw.warmF hW h
  | 9, hk => cases hk; exact va_Nw.warmF hW h
  | 10, hk => cases hk; exact va_Nw.warmF hW h
  | 11, hk => cases hk; exact va_Nw.warmF hW h
  | 12, hk => cases hk; exact va_Nw.warmF hW h
  | 13, hk => cases hk; exact va_Nw.warmF hW h
  | 14, hk => cases hk; exact va_Nw.warmF hW h
  | 15, hk => cases hk; exact va_Nw.warmF hW h
  | 16, hk => cases hk; exact va_Nw.warmF hW h
  | 17, hk => cases hk; exact va_Nw.warmF hW h
  | 18, hk => cases hk; exact va_Nw.warmF hW h
  | 19, hk => cases hk; exact va_Nw.warmF hW h
  | 20, hk => cases hk; exact va_Nw.warmF hW h
  | 21, hk => cases hk; exact va_Nw.warmF hW h
  | 22, hk => cases hk; exact va_Nw.warmF hW h
  | 23, hk => cases hk; exact va_Nw.warmF hW h
  | 24, hk => cases hk; exact va_Nw.warmM hW h
  | 25, hk => cases hk; exact va_Nw.warmM hW h
  | 26, hk => cases hk; exact va_Nw.warmM hW h
  | 27, hk => cases hk; exact va_Nw.warmM hW h
  | k + 28, hk => exact absurd hk (by simp [lw_nest])
/-- a method's contract, by the state of ints: from σ the answer T.1 and the state T.2; nothing is made -/
def Ct (l : Launch) (G : gT) (y : MethodName) (cc : ByteArray) (nL : Nat) (ret : Option FieldType) (d : Nat) (avs : List Value) (κ : Int32 → Option Value) (σ : mS) (T : Int32 × mS) : Prop :=
  Met l y (Cond.code y cc nL ret :: lw_TB) (rm d) (va_Pc avs (fun U => mP G σ U.heap ∧ va_K G.1 vwCl (gY G) U ∧ va_D (fun _ => True) (wD G σ) ∧ mN U)) (mQ G κ T) 0 0 (mA G)
abbrev xT : Type := Program × Env × State × MethodId × Array Value × List Frame × Method × Code
/-- what holds all through a method's run -/
def Vc (G : gT) (X : xT) (own : String) (cc : ByteArray) (nL : Nat) (ret : Option FieldType) : Prop :=
  X.1.tables.exec = Jvm.exec ∧ X.2.2.2.2.2.2.2.code = cc ∧ X.2.2.2.2.2.2.2.maxLocals = nL ∧ X.2.2.1.vm.findClass own = some X.2.2.2.1.cls ∧ (∀ w ∈ lw_TB, w.before X.2.2.2.2.1 X.2.2.1 = true) ∧ va_K G.1 vwCl (gY G) X.2.2.1 ∧ X.2.2.2.2.2.2.1.sig.returnType = ret ∧ X.2.2.2.2.2.2.1.locks = false ∧ mN X.2.2.1
/-- the heap, the locals -/
def Vh (G : gT) (X : xT) (nL : Nat) (σ : mS) (lv : List (Nat × Value)) (H : Heap) (locs : List Loc) (ls : Array Slot) : Prop :=
  mP G σ H ∧ va_D (mA G) (wD G σ) ∧ va_S (mA G) X.2.2.1.heap H locs ∧ lv_has ls nL lv
/-- from this point the method comes to its end with T -/
def V (l : Launch) (G : gT) (X : xT) (own : String) (cc : ByteArray) (nL d : Nat) (ret : Option FieldType) (κ : Int32 → Option Value) (T : Int32 × mS) (σ : mS) (pc : Nat) (lv : List (Nat × Value)) (st : List Value) : Prop :=
  Vc G X own cc nL ret → ∀ (H : Heap) (locs : List Loc) (ls : Array Slot), Vh G X nL σ lv H locs ls →
    W X.1 l X.2.1 (rm d) X.2.2.1 X.2.2.2.1 X.2.2.2.2.1 X.2.2.2.2.2.1 X.2.2.2.2.2.2.1 X.2.2.2.2.2.2.2 H locs 0 0 (MQ X.2.2.2.2.2.1 (mQ G κ T) X.2.2.2.2.1 X.2.2.1 0 0 (mA G)) (F0 X.2.2.2.1 pc ls st)
/-! the world: looking up and setting by number -/
theorem wD_get (G : gT) (σ : mS) (i : Nat) : (wD G σ)[i]? = ((gI G)[i]?).map (fun q => (ad G q, wE (gC G) (ad G) q (σ q))) := by
  unfold wD; rw [List.getElem?_map]
theorem wD_at {G : gT} {q : Nat} (hq : q ∈ gI G) (σ : mS) : ∃ i : Nat, (gI G)[i]? = some q ∧ (wD G σ)[i]? = some (ad G q, wE (gC G) (ad G) q (σ q)) := by
  obtain ⟨i, hi⟩ := List.getElem?_of_mem hq
  exact ⟨i, hi, by rw [wD_get, hi]; rfl⟩
theorem wD_adr {G : gT} {σ σ' : mS} {A B : Nat → Prop} (h : va_D A (wD G σ)) (hB : ∀ q, A q → B q) : va_D B (wD G σ') := by
  have key : ∀ (i : Nat) (p : Nat × va_E), (wD G σ')[i]? = some p → ∃ p', (wD G σ)[i]? = some p' ∧ p'.1 = p.1 := by
    intro i p hp
    rw [wD_get] at hp ⊢
    cases hi : (gI G)[i]? with
    | none => rw [hi] at hp; cases hp
    | some q => rw [hi] at hp; cases hp; exact ⟨_, rfl, rfl⟩
  refine ⟨fun i j p q hp hq e => ?_, fun k q hk => ?_⟩
  · obtain ⟨p', a1, a2⟩ := key i p hp
    obtain ⟨q', b1, b2⟩ := key j q hq
    exact h.1 i j p' q' a1 b1 (by rw [a2, b2]; exact e)
  · obtain ⟨q', b1, b2⟩ := key k q hk
    rw [← b2]; exact hB _ (h.2 k q' b1)
theorem wD_mA {G : gT} {σ : mS} {A : Nat → Prop} (h : va_D A (wD G σ)) : va_D (mA G) (wD G σ) := by
  refine ⟨h.1, fun k q hk => ?_⟩
  rw [wD_get] at hk
  cases hi : (gI G)[k]? with
  | none => rw [hi] at hk; cases hk
  | some q' => rw [hi] at hk; cases hk; exact ⟨q', List.mem_of_getElem? hi, rfl⟩
theorem wD_set {G : gT} {σ σ' : mS} {A : Nat → Prop} {i q : Nat} {e : va_E} (hD : va_D A (wD G σ)) (hi : (gI G)[i]? = some q) (he : e = wE (gC G) (ad G) q (σ' q)) (ho : ∀ q', q' ≠ q → σ' q' = σ q') : (wD G σ).set i (ad G q, e) = wD G σ' := by
  apply List.ext_getElem?
  intro j
  have hlen : i < (wD G σ).length := by
    have h1 : (wD G σ)[i]? = some (ad G q, wE (gC G) (ad G) q (σ q)) := by rw [wD_get, hi]; rfl
    exact (List.getElem?_eq_some_iff.mp h1).1
  by_cases hj : i = j
  · subst hj
    rw [List.getElem?_set, if_pos rfl, if_pos hlen, wD_get, hi, he]; rfl
  · rw [List.getElem?_set, if_neg hj, wD_get, wD_get]
    cases hq : (gI G)[j]? with
    | none => rfl
    | some q' =>
      have hne : q' ≠ q := by
        intro e2
        subst e2
        exact hj (hD.1 i j _ _ (by rw [wD_get, hi]; rfl) (by rw [wD_get, hq]; rfl) rfl)
      show some (ad G q', wE (gC G) (ad G) q' (σ q')) = some (ad G q', wE (gC G) (ad G) q' (σ' q'))
      rw [ho q' hne]
theorem wE_i {c : ClassId × ClassId × ClassId} {a : Nat → Nat} {q n : Nat} {f : Nat → Int32} (h : wK q = 0) (hn : wN q = n) : wE c a q f = .inl (c.1, n, .inl f) := by
  subst hn; unfold wE; rw [h]
theorem wE_z {c : ClassId × ClassId × ClassId} {a : Nat → Nat} {q n : Nat} {f : Nat → Int32} (h : wK q = 1) (hn : wN q = n) : wE c a q f = .inl (c.2.1, n, .inl f) := by
  subst hn; unfold wE; rw [h]
theorem wE_s {c : ClassId × ClassId × ClassId} {a : Nat → Nat} {q : Nat} {f : Nat → Int32} (h : wK q = 2) : wE c a q f = .inl (c.2.2, 3, .inr (.inr (.inr (.inr (fun j => some (a (14 + 13 * j))))))) := by
  unfold wE; rw [h]
theorem wE_o {c : ClassId × ClassId × ClassId} {a : Nat → Nat} {q ci : Nat} {f : Nat → Int32} (h : wK q = ci + 3) : wE c a q f = .inr (ci, oV ci a q f) := by
  unfold wE; rw [h]
theorem Ct.ofV {l : Launch} {G : gT} {y : MethodName} {own : String} {cc : ByteArray} {nL d : Nat} {ret : Option FieldType} {avs : List Value} {κ : Int32 → Option Value} {σ : mS} {T : Int32 × mS} (lv : List (Nat × Value)) (hown : y.cls = own) (hy : plainName y.cls = true) (hn : (lg_sl avs).length ≤ nL) (hlv : lv_args 0 avs = lv) (h : ∀ X : xT, V l G X own cc nL d ret κ T σ 0 lv []) : Ct l G y cc nL ret d avs κ σ T := by
  subst hown
  refine Met.ofW (cc := cc) (maxL := nL) (ret := ret) hy rfl ?_
  intro p e s m args below meth c s₁ B hml hv
  obtain ⟨rfl, hP, hK, hD, hN⟩ := hv
  have hts := atoms_spec (ws := Cond.code y cc nL ret :: lw_TB) B.pre
  have hown : s.vm.findClass y.cls = some m.cls := findClass_of_methodNamed B.named
  have hl := lv_entry avs hn
  rw [hlv] at hl
  rw [lg_entry_eq]
  exact h (p, e, s, m, avs.toArray, below, meth, c) ⟨B.exec, B.bytes, hml, hown, fun w hw => hts w (List.mem_cons_of_mem _ hw), hK, B.returns, B.notSynchronized, hN⟩ s.heap [] _ ⟨hP, wD_mA hD, va_S.rf, hl⟩

section VR
variable {l : Launch} {G : gT} {X : xT} {own : String} {cc : ByteArray} {nL d : Nat} {ret : Option FieldType} {κ : Int32 → Option Value} {T T1 T2 : Int32 × mS} {σ : mS} {pc : Nat} {lv : List (Nat × Value)} {st : List Value}
theorem Viconst {n : Int} (v : Int32) (hv : Int32.ofInt n = v) (pc' : Nat) (hd : decode cc pc = .ok (.iconst n, 1)) (hp : pc' = pc + 1) (k : V l G X own cc nL d ret κ T σ pc' lv (.int v :: st)) : V l G X own cc nL d ret κ T σ pc lv (st) := by
  subst hp
  intro C H locs ls I
  exact lv_iconst C.1 C.2.1 hd hv (k C H locs ls I)
theorem Vbipush {n : Int} (v : Int32) (hv : (Int8.ofInt n).toInt32 = v) (pc' : Nat) (hd : decode cc pc = .ok (.bipush n, 2)) (hp : pc' = pc + 2) (k : V l G X own cc nL d ret κ T σ pc' lv (.int v :: st)) : V l G X own cc nL d ret κ T σ pc lv (st) := by
  subst hp
  intro C H locs ls I
  exact lv_bipush C.1 C.2.1 hd hv (k C H locs ls I)
theorem Vsipush {n : Int} (v : Int32) (hv : (Int16.ofInt n).toInt32 = v) (pc' : Nat) (hd : decode cc pc = .ok (.sipush n, 3)) (hp : pc' = pc + 3) (k : V l G X own cc nL d ret κ T σ pc' lv (.int v :: st)) : V l G X own cc nL d ret κ T σ pc lv (st) := by
  subst hp
  intro C H locs ls I
  exact lv_sipush C.1 C.2.1 hd hv (k C H locs ls I)
theorem Vldc {idx : Nat} (v : Int32) (hw : Cond.constant own idx v ∈ lw_TB) (pc' : Nat) (hd : decode cc pc = .ok (.ldc idx, 2)) (hp : pc' = pc + 2) (k : V l G X own cc nL d ret κ T σ pc' lv (.int v :: st)) : V l G X own cc nL d ret κ T σ pc lv (st) := by
  subst hp
  intro C H locs ls I
  exact lv_ldc C.1 C.2.1 C.2.2.2.1 (C.2.2.2.2.1 _ hw) hd (k C H locs ls I)
theorem Vnull (pc' : Nat) (hd : decode cc pc = .ok (.aconst_null, 1)) (hp : pc' = pc + 1) (k : V l G X own cc nL d ret κ T σ pc' lv (.null :: st)) : V l G X own cc nL d ret κ T σ pc lv (st) := by
  subst hp
  intro C H locs ls I
  exact lv_null C.1 C.2.1 hd (k C H locs ls I)
theorem Vload_n {i : Fin 4} (j : Nat) {x : Int32} (hj : lv[j]? = some ((i : Nat), .int x)) (pc' : Nat) (hd : decode cc pc = .ok (.iload_n i, 1)) (hp : pc' = pc + 1) (k : V l G X own cc nL d ret κ T σ pc' lv (.int x :: st)) : V l G X own cc nL d ret κ T σ pc lv (st) := by
  subst hp
  intro C H locs ls I
  exact lv_iload_n C.1 C.2.1 hd rfl (lv_at I.2.2.2 j hj) (k C H locs ls I)
theorem Vload {i : Nat} (j : Nat) {x : Int32} (hj : lv[j]? = some (i, .int x)) (pc' : Nat) (hd : decode cc pc = .ok (.iload i, 2)) (hp : pc' = pc + 2) (k : V l G X own cc nL d ret κ T σ pc' lv (.int x :: st)) : V l G X own cc nL d ret κ T σ pc lv (st) := by
  subst hp
  intro C H locs ls I
  exact lv_iload C.1 C.2.1 hd (lv_at I.2.2.2 j hj) (k C H locs ls I)
theorem Vaload_n {i : Fin 4} (j : Nat) {x : Nat} (hj : lv[j]? = some ((i : Nat), .ref x)) (pc' : Nat) (hd : decode cc pc = .ok (.aload_n i, 1)) (hp : pc' = pc + 1) (k : V l G X own cc nL d ret κ T σ pc' lv (.ref x :: st)) : V l G X own cc nL d ret κ T σ pc lv (st) := by
  subst hp
  intro C H locs ls I
  exact lv_aload_n C.1 C.2.1 hd rfl (lv_at I.2.2.2 j hj) (k C H locs ls I)
theorem Vaload {i : Nat} (j : Nat) {x : Nat} (hj : lv[j]? = some (i, .ref x)) (pc' : Nat) (hd : decode cc pc = .ok (.aload i, 2)) (hp : pc' = pc + 2) (k : V l G X own cc nL d ret κ T σ pc' lv (.ref x :: st)) : V l G X own cc nL d ret κ T σ pc lv (st) := by
  subst hp
  intro C H locs ls I
  exact lv_aload C.1 C.2.1 hd (lv_at I.2.2.2 j hj) (k C H locs ls I)
theorem Vaload_nN {i : Fin 4} (j : Nat) (hj : lv[j]? = some ((i : Nat), .null)) (pc' : Nat) (hd : decode cc pc = .ok (.aload_n i, 1)) (hp : pc' = pc + 1) (k : V l G X own cc nL d ret κ T σ pc' lv (.null :: st)) : V l G X own cc nL d ret κ T σ pc lv (st) := by
  subst hp
  intro C H locs ls I
  exact lv_aload_nN C.1 C.2.1 hd rfl (lv_at I.2.2.2 j hj) (k C H locs ls I)
theorem ValoadN {i : Nat} (j : Nat) (hj : lv[j]? = some (i, .null)) (pc' : Nat) (hd : decode cc pc = .ok (.aload i, 2)) (hp : pc' = pc + 2) (k : V l G X own cc nL d ret κ T σ pc' lv (.null :: st)) : V l G X own cc nL d ret κ T σ pc lv (st) := by
  subst hp
  intro C H locs ls I
  exact lv_aloadN C.1 C.2.1 hd (lv_at I.2.2.2 j hj) (k C H locs ls I)
theorem Vstore_n {i : Fin 4} {x : Int32} (lv' : List (Nat × Value)) (pc' : Nat) (hd : decode cc pc = .ok (.istore_n i, 1)) (hp : pc' = pc + 1) (hn : (i : Nat) < nL) (hl : ((i : Nat), .int x) :: lv.filter (fun q => !(q.1 == (i : Nat)) && !(q.1 + 1 == (i : Nat) && q.2.category == 2)) = lv') (k : V l G X own cc nL d ret κ T σ pc' lv' st) : V l G X own cc nL d ret κ T σ pc lv (.int x :: st) := by
  subst hp
  intro C H locs ls I
  exact lv_istore_n C.1 C.2.1 hd rfl I.2.2.2 hn hl (fun ls1 h1 => k C H locs ls1 ⟨I.1, I.2.1, I.2.2.1, h1⟩)
theorem Vstore {i : Nat} {x : Int32} (lv' : List (Nat × Value)) (pc' : Nat) (hd : decode cc pc = .ok (.istore i, 2)) (hp : pc' = pc + 2) (hn : (i : Nat) < nL) (hl : ((i : Nat), .int x) :: lv.filter (fun q => !(q.1 == (i : Nat)) && !(q.1 + 1 == (i : Nat) && q.2.category == 2)) = lv') (k : V l G X own cc nL d ret κ T σ pc' lv' st) : V l G X own cc nL d ret κ T σ pc lv (.int x :: st) := by
  subst hp
  intro C H locs ls I
  exact lv_istore C.1 C.2.1 hd I.2.2.2 hn hl (fun ls1 h1 => k C H locs ls1 ⟨I.1, I.2.1, I.2.2.1, h1⟩)
theorem Vastore_n {i : Fin 4} {x : Nat} (lv' : List (Nat × Value)) (pc' : Nat) (hd : decode cc pc = .ok (.astore_n i, 1)) (hp : pc' = pc + 1) (hn : (i : Nat) < nL) (hl : ((i : Nat), .ref x) :: lv.filter (fun q => !(q.1 == (i : Nat)) && !(q.1 + 1 == (i : Nat) && q.2.category == 2)) = lv') (k : V l G X own cc nL d ret κ T σ pc' lv' st) : V l G X own cc nL d ret κ T σ pc lv (.ref x :: st) := by
  subst hp
  intro C H locs ls I
  exact lv_astore_n C.1 C.2.1 hd rfl I.2.2.2 hn hl (fun ls1 h1 => k C H locs ls1 ⟨I.1, I.2.1, I.2.2.1, h1⟩)
theorem Vastore {i : Nat} {x : Nat} (lv' : List (Nat × Value)) (pc' : Nat) (hd : decode cc pc = .ok (.astore i, 2)) (hp : pc' = pc + 2) (hn : (i : Nat) < nL) (hl : ((i : Nat), .ref x) :: lv.filter (fun q => !(q.1 == (i : Nat)) && !(q.1 + 1 == (i : Nat) && q.2.category == 2)) = lv') (k : V l G X own cc nL d ret κ T σ pc' lv' st) : V l G X own cc nL d ret κ T σ pc lv (.ref x :: st) := by
  subst hp
  intro C H locs ls I
  exact lv_astore C.1 C.2.1 hd I.2.2.2 hn hl (fun ls1 h1 => k C H locs ls1 ⟨I.1, I.2.1, I.2.2.1, h1⟩)
theorem Vastore_nN {i : Fin 4} (lv' : List (Nat × Value)) (pc' : Nat) (hd : decode cc pc = .ok (.astore_n i, 1)) (hp : pc' = pc + 1) (hn : (i : Nat) < nL) (hl : ((i : Nat), .null) :: lv.filter (fun q => !(q.1 == (i : Nat)) && !(q.1 + 1 == (i : Nat) && q.2.category == 2)) = lv') (k : V l G X own cc nL d ret κ T σ pc' lv' st) : V l G X own cc nL d ret κ T σ pc lv (.null :: st) := by
  subst hp
  intro C H locs ls I
  exact lv_astore_nN C.1 C.2.1 hd rfl I.2.2.2 hn hl (fun ls1 h1 => k C H locs ls1 ⟨I.1, I.2.1, I.2.2.1, h1⟩)
theorem VastoreN {i : Nat} (lv' : List (Nat × Value)) (pc' : Nat) (hd : decode cc pc = .ok (.astore i, 2)) (hp : pc' = pc + 2) (hn : (i : Nat) < nL) (hl : ((i : Nat), .null) :: lv.filter (fun q => !(q.1 == (i : Nat)) && !(q.1 + 1 == (i : Nat) && q.2.category == 2)) = lv') (k : V l G X own cc nL d ret κ T σ pc' lv' st) : V l G X own cc nL d ret κ T σ pc lv (.null :: st) := by
  subst hp
  intro C H locs ls I
  exact lv_astoreN C.1 C.2.1 hd I.2.2.2 hn hl (fun ls1 h1 => k C H locs ls1 ⟨I.1, I.2.1, I.2.2.1, h1⟩)
theorem Viinc {i : Nat} {n : Int} {x : Int32} (v : Int32) (j : Nat) (lv' : List (Nat × Value)) (pc' : Nat) (hd : decode cc pc = .ok (.iinc i n, 3)) (hp : pc' = pc + 3) (hk : lv[j]? = some (i, .int x)) (hv : x + Int32.ofInt n = v) (hn : i < nL) (hl : (i, Value.int v) :: lv.filter (fun q => !(q.1 == i) && !(q.1 + 1 == i && q.2.category == 2)) = lv') (k : V l G X own cc nL d ret κ T σ pc' lv' st) : V l G X own cc nL d ret κ T σ pc lv st := by
  subst hp
  intro C H locs ls I
  exact lv_iinc C.1 C.2.1 hd I.2.2.2 hk hv hn hl (fun ls1 h1 => k C H locs ls1 ⟨I.1, I.2.1, I.2.2.1, h1⟩)
theorem Viadd {x y : Int32} (pc' : Nat) (hd : decode cc pc = .ok (.iadd, 1)) (hp : pc' = pc + 1) (k : V l G X own cc nL d ret κ T σ pc' lv (.int (x + y) :: st)) : V l G X own cc nL d ret κ T σ pc lv (.int y :: .int x :: st) := by
  subst hp
  intro C H locs ls I
  exact lv_iadd C.1 C.2.1 hd (k C H locs ls I)
theorem Visub {x y : Int32} (pc' : Nat) (hd : decode cc pc = .ok (.isub, 1)) (hp : pc' = pc + 1) (k : V l G X own cc nL d ret κ T σ pc' lv (.int (x - y) :: st)) : V l G X own cc nL d ret κ T σ pc lv (.int y :: .int x :: st) := by
  subst hp
  intro C H locs ls I
  exact lv_isub C.1 C.2.1 hd (k C H locs ls I)
theorem Vimul {x y : Int32} (pc' : Nat) (hd : decode cc pc = .ok (.imul, 1)) (hp : pc' = pc + 1) (k : V l G X own cc nL d ret κ T σ pc' lv (.int (x * y) :: st)) : V l G X own cc nL d ret κ T σ pc lv (.int y :: .int x :: st) := by
  subst hp
  intro C H locs ls I
  exact lv_imul C.1 C.2.1 hd (k C H locs ls I)
theorem Viand {x y : Int32} (pc' : Nat) (hd : decode cc pc = .ok (.iand, 1)) (hp : pc' = pc + 1) (k : V l G X own cc nL d ret κ T σ pc' lv (.int (x &&& y) :: st)) : V l G X own cc nL d ret κ T σ pc lv (.int y :: .int x :: st) := by
  subst hp
  intro C H locs ls I
  exact lv_iand C.1 C.2.1 hd (k C H locs ls I)
theorem Vidiv {x y : Int32} (hne : ¬ y = 0) (pc' : Nat) (hd : decode cc pc = .ok (.idiv, 1)) (hp : pc' = pc + 1) (k : V l G X own cc nL d ret κ T σ pc' lv (.int (x / y) :: st)) : V l G X own cc nL d ret κ T σ pc lv (.int y :: .int x :: st) := by
  subst hp
  intro C H locs ls I
  exact lv_idiv C.1 C.2.1 hd hne (k C H locs ls I)
theorem Virem {x y : Int32} (hne : ¬ y = 0) (pc' : Nat) (hd : decode cc pc = .ok (.irem, 1)) (hp : pc' = pc + 1) (k : V l G X own cc nL d ret κ T σ pc' lv (.int (x - x / y * y) :: st)) : V l G X own cc nL d ret κ T σ pc lv (.int y :: .int x :: st) := by
  subst hp
  intro C H locs ls I
  exact lv_irem C.1 C.2.1 hd hne (k C H locs ls I)
theorem Viushr {x y : Int32} (pc' : Nat) (hd : decode cc pc = .ok (.iushr, 1)) (hp : pc' = pc + 1) (k : V l G X own cc nL d ret κ T σ pc' lv (.int ((x.toUInt32 >>> (y.toUInt32 &&& Int32.toUInt32 31)).toInt32) :: st)) : V l G X own cc nL d ret κ T σ pc lv (.int y :: .int x :: st) := by
  subst hp
  intro C H locs ls I
  exact lv_iushr C.1 C.2.1 hd rfl (k C H locs ls I)
theorem Vdupi {x : Int32} (pc' : Nat) (hd : decode cc pc = .ok (.dup, 1)) (hp : pc' = pc + 1) (k : V l G X own cc nL d ret κ T σ pc' lv (.int x :: .int x :: st)) : V l G X own cc nL d ret κ T σ pc lv (.int x :: st) := by
  subst hp
  intro C H locs ls I
  exact lv_dup C.1 C.2.1 hd rfl (k C H locs ls I)
theorem Vdupa {x : Nat} (pc' : Nat) (hd : decode cc pc = .ok (.dup, 1)) (hp : pc' = pc + 1) (k : V l G X own cc nL d ret κ T σ pc' lv (.ref x :: .ref x :: st)) : V l G X own cc nL d ret κ T σ pc lv (.ref x :: st) := by
  subst hp
  intro C H locs ls I
  exact lv_dup C.1 C.2.1 hd rfl (k C H locs ls I)
theorem Vdup2 {x : Nat} {i : Int32} (pc' : Nat) (hd : decode cc pc = .ok (.dup2, 1)) (hp : pc' = pc + 1) (k : V l G X own cc nL d ret κ T σ pc' lv (.int i :: .ref x :: .int i :: .ref x :: st)) : V l G X own cc nL d ret κ T σ pc lv (.int i :: .ref x :: st) := by
  subst hp
  intro C H locs ls I
  exact lv_dup2_11 C.1 C.2.1 hd rfl rfl (k C H locs ls I)
theorem Vifeq {x : Int32} {off : Int} (tgt pc' : Nat) (hd : decode cc pc = .ok (.ifCond .eq off, 3)) (ht : (pc : Int) + off = (tgt : Int)) (hp : pc' = pc + 3) (kt : x = 0 → V l G X own cc nL d ret κ T1 σ tgt lv st) (kf : ¬ x = 0 → V l G X own cc nL d ret κ T2 σ pc' lv st) : V l G X own cc nL d ret κ (if x = 0 then T1 else T2) σ pc lv (.int x :: st) := by
  subst hp
  intro C H locs ls I
  refine lv_if_eq C.1 C.2.1 hd ht (fun h => ?_) (fun h => ?_)
  · rw [if_pos h]; exact kt h C H locs ls I
  · rw [if_neg h]; exact kf h C H locs ls I
theorem Vifne {x : Int32} {off : Int} (tgt pc' : Nat) (hd : decode cc pc = .ok (.ifCond .ne off, 3)) (ht : (pc : Int) + off = (tgt : Int)) (hp : pc' = pc + 3) (kt : ¬ x = 0 → V l G X own cc nL d ret κ T2 σ tgt lv st) (kf : x = 0 → V l G X own cc nL d ret κ T1 σ pc' lv st) : V l G X own cc nL d ret κ (if x = 0 then T1 else T2) σ pc lv (.int x :: st) := by
  subst hp
  intro C H locs ls I
  refine lv_if_ne C.1 C.2.1 hd ht (fun h => ?_) (fun h => ?_)
  · rw [if_neg h]; exact kt h C H locs ls I
  · rw [if_pos h]; exact kf h C H locs ls I
theorem Viflt {x : Int32} {off : Int} (tgt pc' : Nat) (hd : decode cc pc = .ok (.ifCond .lt off, 3)) (ht : (pc : Int) + off = (tgt : Int)) (hp : pc' = pc + 3) (kt : x < 0 → V l G X own cc nL d ret κ T1 σ tgt lv st) (kf : ¬ x < 0 → V l G X own cc nL d ret κ T2 σ pc' lv st) : V l G X own cc nL d ret κ (if x < 0 then T1 else T2) σ pc lv (.int x :: st) := by
  subst hp
  intro C H locs ls I
  refine lv_if_lt C.1 C.2.1 hd ht (fun h => ?_) (fun h => ?_)
  · rw [if_pos h]; exact kt h C H locs ls I
  · rw [if_neg h]; exact kf h C H locs ls I
theorem Vifge {x : Int32} {off : Int} (tgt pc' : Nat) (hd : decode cc pc = .ok (.ifCond .ge off, 3)) (ht : (pc : Int) + off = (tgt : Int)) (hp : pc' = pc + 3) (kt : 0 ≤ x → V l G X own cc nL d ret κ T1 σ tgt lv st) (kf : ¬ 0 ≤ x → V l G X own cc nL d ret κ T2 σ pc' lv st) : V l G X own cc nL d ret κ (if 0 ≤ x then T1 else T2) σ pc lv (.int x :: st) := by
  subst hp
  intro C H locs ls I
  refine lv_if_ge C.1 C.2.1 hd ht (fun h => ?_) (fun h => ?_)
  · rw [if_pos h]; exact kt h C H locs ls I
  · rw [if_neg h]; exact kf h C H locs ls I
theorem Vifle {x : Int32} {off : Int} (tgt pc' : Nat) (hd : decode cc pc = .ok (.ifCond .le off, 3)) (ht : (pc : Int) + off = (tgt : Int)) (hp : pc' = pc + 3) (kt : x ≤ 0 → V l G X own cc nL d ret κ T1 σ tgt lv st) (kf : ¬ x ≤ 0 → V l G X own cc nL d ret κ T2 σ pc' lv st) : V l G X own cc nL d ret κ (if x ≤ 0 then T1 else T2) σ pc lv (.int x :: st) := by
  subst hp
  intro C H locs ls I
  refine lv_if_le C.1 C.2.1 hd ht (fun h => ?_) (fun h => ?_)
  · rw [if_pos h]; exact kt h C H locs ls I
  · rw [if_neg h]; exact kf h C H locs ls I
theorem Viceq {x y : Int32} {off : Int} (tgt pc' : Nat) (hd : decode cc pc = .ok (.if_icmp .eq off, 3)) (ht : (pc : Int) + off = (tgt : Int)) (hp : pc' = pc + 3) (kt : x = y → V l G X own cc nL d ret κ T1 σ tgt lv st) (kf : ¬ x = y → V l G X own cc nL d ret κ T2 σ pc' lv st) : V l G X own cc nL d ret κ (if x = y then T1 else T2) σ pc lv (.int y :: .int x :: st) := by
  subst hp
  intro C H locs ls I
  refine lv_icmp_eq C.1 C.2.1 hd ht (fun h => ?_) (fun h => ?_)
  · rw [if_pos h]; exact kt h C H locs ls I
  · rw [if_neg h]; exact kf h C H locs ls I
theorem Vicne {x y : Int32} {off : Int} (tgt pc' : Nat) (hd : decode cc pc = .ok (.if_icmp .ne off, 3)) (ht : (pc : Int) + off = (tgt : Int)) (hp : pc' = pc + 3) (kt : ¬ x = y → V l G X own cc nL d ret κ T2 σ tgt lv st) (kf : x = y → V l G X own cc nL d ret κ T1 σ pc' lv st) : V l G X own cc nL d ret κ (if x = y then T1 else T2) σ pc lv (.int y :: .int x :: st) := by
  subst hp
  intro C H locs ls I
  refine lv_icmp_ne C.1 C.2.1 hd ht (fun h => ?_) (fun h => ?_)
  · rw [if_neg h]; exact kt h C H locs ls I
  · rw [if_pos h]; exact kf h C H locs ls I
theorem Viclt {x y : Int32} {off : Int} (tgt pc' : Nat) (hd : decode cc pc = .ok (.if_icmp .lt off, 3)) (ht : (pc : Int) + off = (tgt : Int)) (hp : pc' = pc + 3) (kt : x < y → V l G X own cc nL d ret κ T1 σ tgt lv st) (kf : ¬ x < y → V l G X own cc nL d ret κ T2 σ pc' lv st) : V l G X own cc nL d ret κ (if x < y then T1 else T2) σ pc lv (.int y :: .int x :: st) := by
  subst hp
  intro C H locs ls I
  refine lv_icmp_lt C.1 C.2.1 hd ht (fun h => ?_) (fun h => ?_)
  · rw [if_pos h]; exact kt h C H locs ls I
  · rw [if_neg h]; exact kf h C H locs ls I
theorem Vicge {x y : Int32} {off : Int} (tgt pc' : Nat) (hd : decode cc pc = .ok (.if_icmp .ge off, 3)) (ht : (pc : Int) + off = (tgt : Int)) (hp : pc' = pc + 3) (kt : y ≤ x → V l G X own cc nL d ret κ T1 σ tgt lv st) (kf : ¬ y ≤ x → V l G X own cc nL d ret κ T2 σ pc' lv st) : V l G X own cc nL d ret κ (if y ≤ x then T1 else T2) σ pc lv (.int y :: .int x :: st) := by
  subst hp
  intro C H locs ls I
  refine lv_icmp_ge C.1 C.2.1 hd ht (fun h => ?_) (fun h => ?_)
  · rw [if_pos h]; exact kt h C H locs ls I
  · rw [if_neg h]; exact kf h C H locs ls I
theorem Vicgt {x y : Int32} {off : Int} (tgt pc' : Nat) (hd : decode cc pc = .ok (.if_icmp .gt off, 3)) (ht : (pc : Int) + off = (tgt : Int)) (hp : pc' = pc + 3) (kt : y < x → V l G X own cc nL d ret κ T1 σ tgt lv st) (kf : ¬ y < x → V l G X own cc nL d ret κ T2 σ pc' lv st) : V l G X own cc nL d ret κ (if y < x then T1 else T2) σ pc lv (.int y :: .int x :: st) := by
  subst hp
  intro C H locs ls I
  refine lv_icmp_gt C.1 C.2.1 hd ht (fun h => ?_) (fun h => ?_)
  · rw [if_pos h]; exact kt h C H locs ls I
  · rw [if_neg h]; exact kf h C H locs ls I
theorem Vicle {x y : Int32} {off : Int} (tgt pc' : Nat) (hd : decode cc pc = .ok (.if_icmp .le off, 3)) (ht : (pc : Int) + off = (tgt : Int)) (hp : pc' = pc + 3) (kt : x ≤ y → V l G X own cc nL d ret κ T1 σ tgt lv st) (kf : ¬ x ≤ y → V l G X own cc nL d ret κ T2 σ pc' lv st) : V l G X own cc nL d ret κ (if x ≤ y then T1 else T2) σ pc lv (.int y :: .int x :: st) := by
  subst hp
  intro C H locs ls I
  refine lv_icmp_le C.1 C.2.1 hd ht (fun h => ?_) (fun h => ?_)
  · rw [if_pos h]; exact kt h C H locs ls I
  · rw [if_neg h]; exact kf h C H locs ls I
theorem Vgoto {off : Int} (tgt : Nat) (hd : decode cc pc = .ok (.goto off, 3)) (ht : (pc : Int) + off = (tgt : Int)) (k : V l G X own cc nL d ret κ T σ tgt lv st) : V l G X own cc nL d ret κ T σ pc lv st := by
  intro C H locs ls I
  exact lv_goto C.1 C.2.1 hd ht (k C H locs ls I)
theorem Vifnull {off : Int} {x : Nat} (pc' : Nat) (hd : decode cc pc = .ok (.ifnull off, 3)) (hp : pc' = pc + 3) (k : V l G X own cc nL d ret κ T σ pc' lv st) : V l G X own cc nL d ret κ T σ pc lv (.ref x :: st) := by
  subst hp
  intro C H locs ls I
  exact lv_ifnull C.1 C.2.1 hd (k C H locs ls I)
theorem VifnullN {off : Int} (tgt : Nat) (hd : decode cc pc = .ok (.ifnull off, 3)) (ht : (pc : Int) + off = (tgt : Int)) (k : V l G X own cc nL d ret κ T σ tgt lv st) : V l G X own cc nL d ret κ T σ pc lv (.null :: st) := by
  intro C H locs ls I
  exact lv_ifnullN C.1 C.2.1 hd ht (k C H locs ls I)
theorem Vifnn {off : Int} {x : Nat} (tgt : Nat) (hd : decode cc pc = .ok (.ifnonnull off, 3)) (ht : (pc : Int) + off = (tgt : Int)) (k : V l G X own cc nL d ret κ T σ tgt lv st) : V l G X own cc nL d ret κ T σ pc lv (.ref x :: st) := by
  intro C H locs ls I
  exact lv_ifnonnull C.1 C.2.1 hd ht (k C H locs ls I)
theorem VifnnN {off : Int} (pc' : Nat) (hd : decode cc pc = .ok (.ifnonnull off, 3)) (hp : pc' = pc + 3) (k : V l G X own cc nL d ret κ T σ pc' lv st) : V l G X own cc nL d ret κ T σ pc lv (.null :: st) := by
  subst hp
  intro C H locs ls I
  exact lv_ifnonnullN C.1 C.2.1 hd (k C H locs ls I)
theorem Vswin {dflt lo hi : Int} {offs : Array Int} {len : Nat} {x : Int32} {off : Int} (tgt : Nat) (hd : decode cc pc = .ok (.tableswitch dflt lo hi offs, len)) (h1 : ¬ x.toInt < lo) (h2 : ¬ hi < x.toInt) (ho : offs[(x.toInt - lo).toNat]? = some off) (ht : (pc : Int) + off = (tgt : Int)) (k : V l G X own cc nL d ret κ T σ tgt lv st) : V l G X own cc nL d ret κ T σ pc lv (.int x :: st) := by
  intro C H locs ls I
  exact lv_tableIn C.1 C.2.1 hd h1 h2 ho ht (k C H locs ls I)
theorem Vswout {dflt lo hi : Int} {offs : Array Int} {len : Nat} {x : Int32} (tgt : Nat) (hd : decode cc pc = .ok (.tableswitch dflt lo hi offs, len)) (h : x.toInt < lo ∨ hi < x.toInt) (ht : (pc : Int) + dflt = (tgt : Int)) (k : V l G X own cc nL d ret κ T σ tgt lv st) : V l G X own cc nL d ret κ T σ pc lv (.int x :: st) := by
  intro C H locs ls I
  exact lv_tableOut C.1 C.2.1 hd h ht (k C H locs ls I)
theorem Vif {c : Prop} {dc : Decidable c} (kt : c → V l G X own cc nL d ret κ T1 σ pc lv st) (kf : ¬ c → V l G X own cc nL d ret κ T2 σ pc lv st) : V l G X own cc nL d ret κ (@ite _ c dc T1 T2) σ pc lv st := by
  by_cases h : c
  · rw [if_pos h]; exact kt h
  · rw [if_neg h]; exact kf h
theorem Vld {q n : Nat} {i : Int32} (pc' : Nat) (hd : decode cc pc = .ok (.iaload, 1)) (hp : pc' = pc + 1) (hq : q ∈ gI G) (hk : wK q = 0) (hn : wN q = n) (ht : (gY G)[0]? = some ((gC G).1, .int)) (hin : vp_in i n) (k : V l G X own cc nL d ret κ T σ pc' lv (.int (σ q i.toNatClampNeg) :: st)) : V l G X own cc nL d ret κ T σ pc lv (.int i :: .ref (ad G q) :: st) := by
  subst hp
  intro C H locs ls I
  obtain ⟨j, hj, hw⟩ := wD_at hq σ
  rw [wE_i hk hn] at hw
  exact va_iald C.1 C.2.1 C.2.2.2.2.2.1 I.1 j 0 hw ht hin hd (k C H locs ls I)
theorem Vst {q n : Nat} {i v : Int32} (pc' : Nat) (hd : decode cc pc = .ok (.iastore, 1)) (hp : pc' = pc + 1) (hq : q ∈ gI G) (hk : wK q = 0) (hn : wN q = n) (ht : (gY G)[0]? = some ((gC G).1, .int)) (hin : vp_in i n) (k : V l G X own cc nL d ret κ T (st2 σ q i.toNatClampNeg v) pc' lv st) : V l G X own cc nL d ret κ T σ pc lv (.int v :: .int i :: .ref (ad G q) :: st) := by
  subst hp
  intro C H locs ls I
  obtain ⟨j, hj, hw⟩ := wD_at hq σ
  rw [wE_i hk hn] at hw
  refine va_iast C.1 C.2.1 C.2.2.2.2.2.1 I.1 I.2.1 I.2.2.1 j 0 hw ht hin hd (fun H1 locs1 hP1 hD1 hS1 => ?_)
  rw [wD_set (σ' := st2 σ q i.toNatClampNeg v) I.2.1 hj (by rw [wE_i hk hn, st2_q]) (fun q' h => st2_nq h)] at hP1 hD1
  exact k C H1 locs1 ls ⟨hP1, hD1, hS1, I.2.2.2⟩
theorem Vldz {q n : Nat} {i : Int32} (pc' : Nat) (hd : decode cc pc = .ok (.baload, 1)) (hp : pc' = pc + 1) (hq : q ∈ gI G) (hk : wK q = 1) (hn : wN q = n) (ht : (gY G)[1]? = some ((gC G).2.1, .boolean)) (hin : vp_in i n) (k : V l G X own cc nL d ret κ T σ pc' lv (.int (σ q i.toNatClampNeg) :: st)) : V l G X own cc nL d ret κ T σ pc lv (.int i :: .ref (ad G q) :: st) := by
  subst hp
  intro C H locs ls I
  obtain ⟨j, hj, hw⟩ := wD_at hq σ
  rw [wE_z hk hn] at hw
  exact va_zald C.1 C.2.1 C.2.2.2.2.2.1 I.1 j 1 hw ht hin hd (k C H locs ls I)
theorem Vstz {q n : Nat} {i v : Int32} (pc' : Nat) (hd : decode cc pc = .ok (.bastore, 1)) (hp : pc' = pc + 1) (hq : q ∈ gI G) (hk : wK q = 1) (hn : wN q = n) (ht : (gY G)[1]? = some ((gC G).2.1, .boolean)) (hin : vp_in i n) (hv : vp_nar .boolean v = v) (k : V l G X own cc nL d ret κ T (st2 σ q i.toNatClampNeg v) pc' lv st) : V l G X own cc nL d ret κ T σ pc lv (.int v :: .int i :: .ref (ad G q) :: st) := by
  subst hp
  intro C H locs ls I
  obtain ⟨j, hj, hw⟩ := wD_at hq σ
  rw [wE_z hk hn] at hw
  refine va_zast C.1 C.2.1 C.2.2.2.2.2.1 I.1 I.2.1 I.2.2.1 j 1 hw ht hin hd (fun H1 locs1 hP1 hD1 hS1 => ?_)
  rw [wD_set (σ' := st2 σ q i.toNatClampNeg v) I.2.1 hj (by rw [wE_z hk hn, st2_q, hv]) (fun q' h => st2_nq h)] at hP1 hD1
  exact k C H1 locs1 ls ⟨hP1, hD1, hS1, I.2.2.2⟩
theorem Vlds {i : Int32} (pc' : Nat) (hd : decode cc pc = .ok (.aaload, 1)) (hp : pc' = pc + 1) (hq : 13 ∈ gI G) (ht : (gY G)[2]? = some ((gC G).2.2, .object "MutableCells$Strand")) (hin : vp_in i 3) (k : V l G X own cc nL d ret κ T σ pc' lv (.ref (ad G (14 + 13 * i.toNatClampNeg)) :: st)) : V l G X own cc nL d ret κ T σ pc lv (.int i :: .ref (ad G 13) :: st) := by
  subst hp
  intro C H locs ls I
  obtain ⟨j, hj, hw⟩ := wD_at hq σ
  rw [wE_s rfl] at hw
  exact va_aldq C.1 C.2.1 C.2.2.2.2.2.1 I.1 j 2 hw ht hin hd (k C H locs ls I)
theorem Vlen {q n : Nat} {cA : ClassId} (v : Int32) (pc' : Nat) (hd : decode cc pc = .ok (.arraylength, 1)) (hp : pc' = pc + 1) (hq : q ∈ gI G) (hk : wK q = 0) (hn : wN q = n) (ht : (gY G)[0]? = some ((gC G).1, .int)) (hv : Int32.ofNat n = v) (k : V l G X own cc nL d ret κ T σ pc' lv (.int v :: st)) : V l G X own cc nL d ret κ T σ pc lv (.ref (ad G q) :: st) := by
  subst hp
  intro C H locs ls I
  obtain ⟨j, hj, hw⟩ := wD_at hq σ
  rw [wE_i hk hn] at hw
  exact va_alen C.1 C.2.1 C.2.2.2.2.2.1 I.1 j 0 hw ht hv hd (k C H locs ls I)
theorem Vlens (pc' : Nat) (hd : decode cc pc = .ok (.arraylength, 1)) (hp : pc' = pc + 1) (hq : 13 ∈ gI G) (ht : (gY G)[2]? = some ((gC G).2.2, .object "MutableCells$Strand")) (k : V l G X own cc nL d ret κ T σ pc' lv (.int 3 :: st)) : V l G X own cc nL d ret κ T σ pc lv (.ref (ad G 13) :: st) := by
  subst hp
  intro C H locs ls I
  obtain ⟨j, hj, hw⟩ := wD_at hq σ
  rw [wE_s rfl] at hw
  exact va_alen C.1 C.2.1 C.2.2.2.2.2.1 I.1 j 2 hw ht (v := 3) rfl hd (k C H locs ls I)
theorem Vget {C0 : String} {T0 : u_T} {N ci idx : Nat} (q k0 : Nat) {v : Value} (pc' : Nat) (hd : decode cc pc = .ok (.getfield idx, 3)) (hp : pc' = pc + 3) (hq : q ∈ gI G) (hk : wK q = ci + 3) (hcl : vwCl[ci]? = some (C0, T0, N)) (hin : ∀ w ∈ u_ws C0 T0 N, w ∈ lw_TB) (hkN : k0 < N) (hlink : Cond.fieldLink own idx (T0 k0).1 (T0 k0).2.1 (T0 k0).2.2.1 ∈ lw_TB) (hv : (oV ci (ad G) q (σ q))[k0]? = some v) (k : V l G X own cc nL d ret κ T σ pc' lv (v :: st)) : V l G X own cc nL d ret κ T σ pc lv (.ref (ad G q) :: st) := by
  subst hp
  intro C H locs ls I
  obtain ⟨j, hj, hw⟩ := wD_at hq σ
  rw [wE_o hk] at hw
  exact va_get C.1 C.2.1 C.2.2.2.2.1 hin C.2.2.2.1 C.2.2.2.2.2.1 I.1 j hw hcl k0 hkN (C.2.2.2.2.1 _ hlink) (fun _ h9 => h9) hv hd (k C H locs ls I)
theorem VgetN {C0 host : String} {T0 : u_T} {N ci idx : Nat} (q k0 : Nat) {v : Value} (pc' : Nat) (hd : decode cc pc = .ok (.getfield idx, 3)) (hp : pc' = pc + 3) (hq : q ∈ gI G) (hk : wK q = ci + 3) (hcl : vwCl[ci]? = some (C0, T0, N)) (hin : ∀ w ∈ u_ws C0 T0 N, w ∈ lw_TB) (hkN : k0 < N) (hlink : Cond.fieldLinkNest own idx (T0 k0).1 (T0 k0).2.1 (T0 k0).2.2.1 host ∈ lw_nest) (hv : (oV ci (ad G) q (σ q))[k0]? = some v) (k : V l G X own cc nL d ret κ T σ pc' lv (v :: st)) : V l G X own cc nL d ret κ T σ pc lv (.ref (ad G q) :: st) := by
  subst hp
  intro C H locs ls I
  obtain ⟨j, hj, hw⟩ := wD_at hq σ
  rw [wE_o hk] at hw
  exact va_getN C.1 C.2.1 C.2.2.2.2.1 hin C.2.2.2.1 C.2.2.2.2.2.1 I.1 j hw hcl k0 hkN (va_Nw.use rfl (C.2.2.2.2.2.2.2.2 _ hlink)) (fun _ h9 => h9) hv hd (k C H locs ls I)
theorem Vput {C0 : String} {T0 : u_T} {N ci idx : Nat} (q k0 : Nat) {x : Int32} {ty : FieldType} (ty0 : Nat → FieldType) (pc' : Nat) (hd : decode cc pc = .ok (.putfield idx, 3)) (hp : pc' = pc + 3) (hq : q ∈ gI G) (hk : wK q = ci + 3) (hcl : vwCl[ci]? = some (C0, T0, N)) (hin : ∀ w ∈ u_ws C0 T0 N, w ∈ lw_TB) (hty : ∀ k, k < N → parseFieldDescriptor (T0 k).2.2.1 = some (ty0 k)) (hnm : ∀ a, a < N → ∀ b, b < N → a ≠ b → (T0 a).2.1 ≠ (T0 b).2.1) (hkN : k0 < N) (hlink : Cond.fieldLink own idx (T0 k0).1 (T0 k0).2.1 (T0 k0).2.2.1 ∈ lw_TB) (hfin : (T0 k0).2.2.2 = false) (hdd : parseFieldDescriptor (T0 k0).2.2.1 = some ty) (hna : narrow ty (.int x) = .int x) (hfit : fits ty (.int x) = true) (hset : ∀ f : Nat → Int32, (oV ci (ad G) q f).set k0 (.int x) = oV ci (ad G) q (upd f k0 x)) (hlen : ∀ f : Nat → Int32, k0 < (oV ci (ad G) q f).length) (k : V l G X own cc nL d ret κ T (st2 σ q k0 x) pc' lv st) : V l G X own cc nL d ret κ T σ pc lv (.int x :: .ref (ad G q) :: st) := by
  subst hp
  intro C H locs ls I
  obtain ⟨j, hj, hw⟩ := wD_at hq σ
  rw [wE_o hk] at hw
  refine va_put C.1 C.2.1 C.2.2.2.2.1 hin ty0 hty hnm C.2.2.2.1 C.2.2.2.2.2.1 I.1 I.2.1 I.2.2.1 j hw hcl k0 hkN (C.2.2.2.2.1 _ hlink) (fun _ h9 => h9) hfin hdd hna hfit (hlen _) hd (fun H1 locs1 hP1 hD1 hS1 => ?_)
  rw [wD_set (σ' := st2 σ q k0 x) I.2.1 hj (by rw [wE_o hk, st2_q, hset]) (fun q' h => st2_nq h)] at hP1 hD1
  exact k C H1 locs1 ls ⟨hP1, hD1, hS1, I.2.2.2⟩
theorem VputN {C0 host : String} {T0 : u_T} {N ci idx : Nat} (q k0 : Nat) {x : Int32} {ty : FieldType} (ty0 : Nat → FieldType) (pc' : Nat) (hd : decode cc pc = .ok (.putfield idx, 3)) (hp : pc' = pc + 3) (hq : q ∈ gI G) (hk : wK q = ci + 3) (hcl : vwCl[ci]? = some (C0, T0, N)) (hin : ∀ w ∈ u_ws C0 T0 N, w ∈ lw_TB) (hty : ∀ k, k < N → parseFieldDescriptor (T0 k).2.2.1 = some (ty0 k)) (hnm : ∀ a, a < N → ∀ b, b < N → a ≠ b → (T0 a).2.1 ≠ (T0 b).2.1) (hkN : k0 < N) (hlink : Cond.fieldLinkNest own idx (T0 k0).1 (T0 k0).2.1 (T0 k0).2.2.1 host ∈ lw_nest) (hfin : (T0 k0).2.2.2 = false) (hdd : parseFieldDescriptor (T0 k0).2.2.1 = some ty) (hna : narrow ty (.int x) = .int x) (hfit : fits ty (.int x) = true) (hset : ∀ f : Nat → Int32, (oV ci (ad G) q f).set k0 (.int x) = oV ci (ad G) q (upd f k0 x)) (hlen : ∀ f : Nat → Int32, k0 < (oV ci (ad G) q f).length) (k : V l G X own cc nL d ret κ T (st2 σ q k0 x) pc' lv st) : V l G X own cc nL d ret κ T σ pc lv (.int x :: .ref (ad G q) :: st) := by
  subst hp
  intro C H locs ls I
  obtain ⟨j, hj, hw⟩ := wD_at hq σ
  rw [wE_o hk] at hw
  refine va_putN C.1 C.2.1 C.2.2.2.2.1 hin ty0 hty hnm C.2.2.2.1 C.2.2.2.2.2.1 I.1 I.2.1 I.2.2.1 j hw hcl k0 hkN (va_Nw.use rfl (C.2.2.2.2.2.2.2.2 _ hlink)) (fun _ h9 => h9) hfin hdd hna hfit (hlen _) hd (fun H1 locs1 hP1 hD1 hS1 => ?_)
  rw [wD_set (σ' := st2 σ q k0 x) I.2.1 hj (by rw [wE_o hk, st2_q, hset]) (fun q' h => st2_nq h)] at hP1 hD1
  exact k C H1 locs1 ls ⟨hP1, hD1, hS1, I.2.2.2⟩
theorem Vcopy {idx qs qd n : Nat} {m : Int32} (pc' : Nat) (hd : decode cc pc = .ok (.invokestatic idx, 3)) (hp : pc' = pc + 3) (hlink : Cond.methodLink own idx arraycopyName ∈ lw_TB) (hqs : qs ∈ gI G) (hks : wK qs = 0) (hns : wN qs = n) (hqd : qd ∈ gI G) (hkd : wK qd = 0) (hnd : wN qd = n) (ht : (gY G)[0]? = some ((gC G).1, .int)) (hm : m.toNatClampNeg = n) (hm0 : ¬ m < 0) (hd1 : 1 ≤ d) (hst : st = []) (k : V l G X own cc nL d ret κ T (cp2 σ qs qd n) pc' lv []) : V l G X own cc nL d ret κ T σ pc lv (.int m :: .int 0 :: .ref (ad G qd) :: .int 0 :: .ref (ad G qs) :: st) := by
  subst hp; subst hst
  intro C H locs ls I
  obtain ⟨j, hj, hw⟩ := wD_at hqs σ
  rw [wE_i hks hns] at hw
  obtain ⟨j2, hj2, hw2⟩ := wD_at hqd σ
  have h00 : (0 : Int32).toNatClampNeg = 0 := by decide
  have hcp : va_cpy (σ qs) (σ qd) (0 : Int32).toNatClampNeg (0 : Int32).toNatClampNeg m.toNatClampNeg = cp2 σ qs qd n qd := by
    funext i
    rw [h00, hm]
    simp [va_cpy, cp2]
  rw [wE_i hkd hnd] at hw2
  refine va_copyi C.1 C.2.1 (C.2.2.1.trans I.2.2.2.1.symm) C.2.2.2.1 (C.2.2.2.2.1 _ hlink) (C.2.2.2.2.1 _ wd_nat_arraycopyName) (C.2.2.2.2.1 _ wd_sm_arraycopyName) (C.2.2.2.2.1 _ wd_ini_RJ10) C.2.2.2.2.2.1 I.1 I.2.1 I.2.2.1 j j2 0 0 hw hw2 ht ht rfl (by decide) (by decide) hm0 (by rw [hm]; exact Nat.le_of_eq (Nat.zero_add n)) (by rw [hm]; exact Nat.le_of_eq (Nat.zero_add n)) (fun i _ => rfl) hd1 ?_ hd (fun H1 locs1 hP1 hD1 hS1 => ?_)
  · show 0 + (nativeFrameWords "java/lang/System" "arraycopy" 5 + 11) ≤ 40 * d
    have h1 : nativeFrameWords "java/lang/System" "arraycopy" 5 + 11 ≤ 40 := by decide +kernel
    omega
  · rw [wD_set (σ' := cp2 σ qs qd n) I.2.1 hj2 (by rw [wE_i hkd hnd]; rw [hcp]) (fun q' h => cp2_nq h)] at hP1 hD1
    exact k C H1 locs1 ls ⟨hP1, hD1, hS1, I.2.2.2⟩
/-! returns -/
theorem Viret {v : Int32} (hd : decode cc pc = .ok (.ireturn, 1)) : V l G X own cc nL d (some .int) κI (v, σ) σ pc lv [.int v] := by
  intro C H locs ls I
  exact W.iret C.1 C.2.1 C.2.2.2.2.2.2.1 (fun t ht hW => ⟨⟨rfl, by rw [ht]; exact I.1⟩, I.2.2.1.F ht⟩) I.2.2.1.2.2 hd C.2.2.2.2.2.2.2.1
theorem Vzret {v : Int32} (hd : decode cc pc = .ok (.ireturn, 1)) (hn : narrow .boolean (.int v) = .int v) : V l G X own cc nL d (some .boolean) κI (v, σ) σ pc lv [.int v] := by
  intro C H locs ls I
  exact W.zret C.1 C.2.1 C.2.2.2.2.2.2.1 hn (fun t ht hW => ⟨⟨rfl, by rw [ht]; exact I.1⟩, I.2.2.1.F ht⟩) I.2.2.1.2.2 hd C.2.2.2.2.2.2.2.1
theorem Vvret {v : Int32} (hd : decode cc pc = .ok (.return_, 1)) : V l G X own cc nL d none κV (v, σ) σ pc lv [] := by
  intro C H locs ls I
  exact W.vret C.1 C.2.1 C.2.2.2.2.2.2.1 (fun t ht hW => ⟨⟨rfl, by rw [ht]; exact I.1⟩, I.2.2.1.F ht⟩) I.2.2.1.2.2 hd C.2.2.2.2.2.2.2.1
theorem Varet {v : Int32} {n : String} (hd : decode cc pc = .ok (.areturn, 1)) (q : Nat) (hv : κR G v = some (.ref (ad G q))) : V l G X own cc nL d (some (.object n)) (κR G) (v, σ) σ pc lv [.ref (ad G q)] := by
  intro C H locs ls I
  exact W.aret C.1 C.2.1 C.2.2.2.2.2.2.1 (Or.inl ⟨_, rfl⟩) (Or.inr ⟨_, rfl⟩) (fun t ht hW => ⟨⟨by rw [hv], by rw [ht]; exact I.1⟩, I.2.2.1.F ht⟩) I.2.2.1.2.2 hd C.2.2.2.2.2.2.2.1
theorem VaretN {n : String} (hd : decode cc pc = .ok (.areturn, 1)) : V l G X own cc nL d (some (.object n)) (κR G) (-1, σ) σ pc lv [.null] := by
  intro C H locs ls I
  exact W.aret C.1 C.2.1 C.2.2.2.2.2.2.1 (Or.inl ⟨_, rfl⟩) (Or.inl rfl) (fun t ht hW => ⟨⟨rfl, by rw [ht]; exact I.1⟩, I.2.2.1.F ht⟩) I.2.2.1.2.2 hd C.2.2.2.2.2.2.2.1
end VR
/-! calls -/
/-- what the tables say of a method that is called: code, initialised, its number of arguments -/
def mW (y : MethodName) (cy : ByteArray) (nLy : Nat) (rety : Option FieldType) (n : Nat) : Prop := Cond.code y cy nLy rety ∈ lw_TB ∧ Cond.initialized y.cls ∈ lw_TB ∧ (y.cls ≠ "java/lang/invoke/MethodHandle" ∧ y.cls ≠ "java/lang/invoke/VarHandle") ∧ (parseMethodDescriptor y.desc).map (fun d => d.parameters.length) = some n ∧ nLy ≤ 21
theorem good_ws {y : MethodName} {cy : ByteArray} {nLy n : Nat} {rety : Option FieldType} (h : mW y cy nLy rety n) : GoodIn lw_TB (Cond.code y cy nLy rety :: lw_TB) := by
  intro w hw
  have h1 : w ∈ lw_TB := by
    rcases List.mem_cons.mp hw with e | e
    · rw [e]; exact h.1
    · exact e
  exact ⟨h1, good_of_word (lw_TB_good h1)⟩
theorem callB_m {own : String} {idx nLy n d dy : Nat} {y : MethodName} {cy : ByteArray} {rety : Option FieldType} {s : State} {args : Array Value} (h : mW y cy nLy rety n) (ht : ∀ w ∈ lw_TB, w.before args s = true) (hl : Cond.methodLink own idx y ∈ lw_TB) (hdy : dy + 1 ≤ d) : CallB (rm d) s args own idx y cy nLy rety (Cond.code y cy nLy rety :: lw_TB) (rm dy) 0 0 n := by
  refine callB_of n ht (good_ws h) rfl rfl rfl (ht _ h.2.1) (ht _ hl) ⟨h.2.2.1.1, h.2.2.1.2, h.2.2.2.1⟩ ⟨hdy, ?_⟩
  have h5 := h.2.2.2.2
  show 8 + (nLy + 11) + 40 * dy ≤ 40 * d
  omega
theorem blind_m (G : gT) (σ : mS) (avs : List Value) : FrameBlind (va_Pc avs (fun U => mP G σ U.heap ∧ va_K G.1 vwCl (gY G) U ∧ va_D (fun _ => True) (wD G σ) ∧ mN U)) := by
  intro a U g mk q
  obtain ⟨q0, qP, qK, qD, qN⟩ := q
  exact ⟨q0, qP, va_K.moved (u := U) (U := U.calling g mk a) (Vm.Alike.refl U.vm) qK, qD, mN.same (u := U) (U := U.calling g mk a) rfl qN⟩
theorem pre_m {G : gT} {X : xT} {own : String} {cc : ByteArray} {nL : Nat} {ret : Option FieldType} {σ : mS} {lv : List (Nat × Value)} {H : Heap} {locs : List Loc} {ls : Array Slot} (C : Vc G X own cc nL ret) (I : Vh G X nL σ lv H locs ls) (avs : List Value) : ∀ U : State, U.heap = H → X.2.2.1.WarmedH U.vm → va_Pc avs (fun U => mP G σ U.heap ∧ va_K G.1 vwCl (gY G) U ∧ va_D (fun _ => True) (wD G σ) ∧ mN U) avs.toArray U := by
  intro U hU hW
  exact ⟨rfl, by rw [hU]; exact I.1, va_K.moved hW.alike C.2.2.2.2.2.1, I.2.1.weaken (fun _ _ _ _ => trivial), mN.warm hW C.2.2.2.2.2.2.2.2⟩
theorem Vback {l : Launch} {G : gT} {X : xT} {own : String} {cc : ByteArray} {nL d : Nat} {ret : Option FieldType} {κ κy : Int32 → Option Value} {T Fy : Int32 × mS} {σ : mS} {pc : Nat} {lv : List (Nat × Value)} {st st0 : List Value} {H : Heap} {locs : List Loc} {ls : Array Slot} {a : Array Value} (C : Vc G X own cc nL ret) (I : Vh G X nL σ lv H locs ls)
    (hr : va_Run X.1 l X.2.1 (rm d) X.2.2.1 X.2.2.2.1 X.2.2.2.2.1 X.2.2.2.2.2.1 X.2.2.2.2.2.2.1 X.2.2.2.2.2.2.2 H locs 0 0 0 0 (F0 X.2.2.2.1 pc ls st0) st (mQ G κy Fy a) (mA G))
    (k : V l G X own cc nL d ret κ T Fy.2 (pc + 3) lv ((κy Fy.1).toList ++ st)) : W X.1 l X.2.1 (rm d) X.2.2.1 X.2.2.2.1 X.2.2.2.2.1 X.2.2.2.2.2.1 X.2.2.2.2.2.2.1 X.2.2.2.2.2.2.2 H locs 0 0 (MQ X.2.2.2.2.2.1 (mQ G κ T) X.2.2.2.2.1 X.2.2.1 0 0 (mA G)) (F0 X.2.2.2.1 pc ls st0) := by
  intro S hS Xs
  obtain ⟨v, st₀, t, T', L, h0, X', hL, e1, e2, ⟨⟨hv, hP⟩, hz, hk⟩, stp⟩ := hr S hS Xs
  obtain rfl : v = κy Fy.1 := by injection hv
  rw [h0] at hz hk
  rw [← e1] at hz hk hP
  obtain ⟨t2, a1, b1⟩ := k C T'.heap (locs ++ L) ls ⟨hP, wD_adr I.2.1 (fun _ h => h), ⟨Nat.le_trans I.2.2.1.1 hz, fun q h1 h2 => by rw [hk q (Nat.lt_of_lt_of_le h1 I.2.2.1.1) h2]; exact I.2.2.1.2.1 q h1 h2, fun q hq => by
      rcases List.mem_append.mp hq with h | h
      · exact I.2.2.1.2.2 q h
      · exact hL q h⟩, I.2.2.2⟩ T' rfl X'
  exact ⟨t2, stp t2 a1, b1⟩
section VCl
variable {l : Launch} {G : gT} {X : xT} {own : String} {cc : ByteArray} {nL d : Nat} {ret : Option FieldType} {κ : Int32 → Option Value} {T Fy : Int32 × mS} {σ : mS} {pc : Nat} {lv : List (Nat × Value)} {st st0 : List Value} {idx : Nat} {y : MethodName} {cy : ByteArray} {nLy dy n : Nat} {rety : Option FieldType} {κy : Int32 → Option Value}
theorem VcallV {q ci : Nat} {cl : vw_C} (As : List Value) (hc : Ct l G y cy nLy rety dy (.ref (ad G q) :: As) κy σ Fy) (hm : mW y cy nLy rety n) (him : Cond.instanceMethod y ∈ lw_TB) (hse : Cond.selects y.cls y y ∈ lw_TB) (hl : Cond.methodLink own idx y ∈ lw_TB) (hq : q ∈ gI G) (hk : wK q = ci + 3) (hcl : vwCl[ci]? = some cl) (hcn : cl.1 = y.cls) (hdy : dy + 1 ≤ d) (hn : As.length = n) (hst : st0 = As.reverse ++ .ref (ad G q) :: st) (hrest : (st.map fun v => v.category).sum ≤ 8) (hd : decode cc pc = .ok (.invokevirtual idx, 3)) (k : V l G X own cc nL d ret κ T Fy.2 (pc + 3) lv ((κy Fy.1).toList ++ st)) : V l G X own cc nL d ret κ T σ pc lv st0 := by
  intro C H locs ls I
  obtain ⟨j, hj, hw⟩ := wD_at hq σ
  rw [wE_o hk] at hw
  have hrc := va_recv C.2.2.2.2.2.1 I.1 hcl hw
  rw [hcn] at hrc
  exact Vback C I (va_runV (Ts := lw_TB) (As := As) (rest := st) ⟨C.1, C.2.1, C.2.2.1, C.2.2.2.1, C.2.2.2.2.1⟩ hc ⟨callB_m hm C.2.2.2.2.1 hl hdy, C.2.2.2.2.1 _ him, C.2.2.2.2.1 _ hse⟩ ⟨blind_m G σ _, hrc, pre_m C I _⟩ rfl hn I.2.2.2.1 hst (lv_room hrest) hd ⟨Nat.le_refl _, Nat.le_refl _⟩) k
theorem VcallS (As : List Value) (hc : Ct l G y cy nLy rety dy As κy σ Fy) (hm : mW y cy nLy rety n) (him : Cond.static y ∈ lw_TB) (hl : Cond.methodLink own idx y ∈ lw_TB) (hdy : dy + 1 ≤ d) (hn : As.length = n) (hst : st0 = As.reverse ++ st) (hrest : (st.map fun v => v.category).sum ≤ 8) (hd : decode cc pc = .ok (.invokestatic idx, 3)) (k : V l G X own cc nL d ret κ T Fy.2 (pc + 3) lv ((κy Fy.1).toList ++ st)) : V l G X own cc nL d ret κ T σ pc lv st0 := by
  intro C H locs ls I
  exact Vback C I (va_runS (Ts := lw_TB) (As := As) (rest := st) ⟨C.1, C.2.1, C.2.2.1, C.2.2.2.1, C.2.2.2.2.1⟩ hc ⟨callB_m hm C.2.2.2.2.1 hl hdy, C.2.2.2.2.1 _ him⟩ ⟨blind_m G σ _, pre_m C I _⟩ rfl hn I.2.2.2.1 hst (lv_room hrest) hd ⟨Nat.le_refl _, Nat.le_refl _⟩) k
theorem VcallSN {host : String} (As : List Value) (hc : Ct l G y cy nLy rety dy As κy σ Fy) (hm : mW y cy nLy rety n) (him : Cond.static y ∈ lw_TB) (hl : Cond.methodLinkNest own idx y host ∈ lw_nest) (hdy : dy + 1 ≤ d) (hn : As.length = n) (hst : st0 = As.reverse ++ st) (hrest : (st.map fun v => v.category).sum ≤ 8) (hd : decode cc pc = .ok (.invokestatic idx, 3)) (k : V l G X own cc nL d ret κ T Fy.2 (pc + 3) lv ((κy Fy.1).toList ++ st)) : V l G X own cc nL d ret κ T σ pc lv st0 := by
  intro C H locs ls I
  have hR : (rm dy).frames + 1 ≤ (rm d).frames ∧ 8 + (nLy + 11) + (rm dy).locals ≤ (rm d).locals := by
    refine ⟨hdy, ?_⟩
    have h5 := hm.2.2.2.2
    show 8 + (nLy + 11) + 40 * dy ≤ 40 * d
    omega
  exact Vback C I (va_runSN (Ts := lw_TB) (As := As) (rest := st) ⟨C.1, C.2.1, C.2.2.1, C.2.2.2.1, C.2.2.2.2.1⟩ hc ⟨va_cnB n C.2.2.2.2.1 (good_ws hm) rfl rfl rfl (C.2.2.2.2.2.2.2.2 _ hl) (C.2.2.2.2.1 _ hm.2.1) ⟨hm.2.2.1.1, hm.2.2.1.2, hm.2.2.2.1⟩ hR, C.2.2.2.2.1 _ him, trivial⟩ ⟨blind_m G σ _, pre_m C I _⟩ rfl hn I.2.2.2.1 hst (lv_room hrest) hd ⟨Nat.le_refl _, Nat.le_refl _⟩) k
end VCl
end
