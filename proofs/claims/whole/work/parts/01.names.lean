-- ===== PART A: goes FIRST, ahead of the names: the tables' words, and 'selects' of the private methods out of them =====
/-- a private method of a class that the tables say can be made, by its rows of tables_1 -/
def lw_okq (q : MethodName × Nat) : Prop := (q.1.cls ≠ "java/lang/invoke/MethodHandle" ∧ q.1.cls ≠ "java/lang/invoke/VarHandle") ∧ Cond.instantiable q.1.cls q.2 ∈ tables_1 ∧ Cond.privateMethod q.1 ∈ tables_1 ∧ Cond.instanceMethod q.1 ∈ tables_1
theorem lw_p0 : lw_okq (⟨"MutableCells", "strandOf", "(I)LMutableCells$Strand;"⟩, 5) := ⟨⟨by decide +kernel, by decide +kernel⟩, List.mem_of_getElem? (i := 11) (by decide +kernel), List.mem_of_getElem? (i := 212) (by decide +kernel), List.mem_of_getElem? (i := 213) (by decide +kernel)⟩
theorem lw_p1 : lw_okq (⟨"MutableCells", "takeTurn", "(LMutableCells$Strand;)V"⟩, 5) := ⟨⟨by decide +kernel, by decide +kernel⟩, List.mem_of_getElem? (i := 11) (by decide +kernel), List.mem_of_getElem? (i := 243) (by decide +kernel), List.mem_of_getElem? (i := 244) (by decide +kernel)⟩
theorem lw_p2 : lw_okq (⟨"MutableCells", "perform", "(LMutableCells$Strand;)I"⟩, 5) := ⟨⟨by decide +kernel, by decide +kernel⟩, List.mem_of_getElem? (i := 11) (by decide +kernel), List.mem_of_getElem? (i := 247) (by decide +kernel), List.mem_of_getElem? (i := 248) (by decide +kernel)⟩
theorem lw_p3 : lw_okq (⟨"MutableCells", "getCell", "(LMutableCells$Strand;II)I"⟩, 5) := ⟨⟨by decide +kernel, by decide +kernel⟩, List.mem_of_getElem? (i := 11) (by decide +kernel), List.mem_of_getElem? (i := 254) (by decide +kernel), List.mem_of_getElem? (i := 255) (by decide +kernel)⟩
theorem lw_p4 : lw_okq (⟨"MutableCells", "failureOfReading", "(LMutableCells$Strand;I)I"⟩, 5) := ⟨⟨by decide +kernel, by decide +kernel⟩, List.mem_of_getElem? (i := 11) (by decide +kernel), List.mem_of_getElem? (i := 258) (by decide +kernel), List.mem_of_getElem? (i := 259) (by decide +kernel)⟩
theorem lw_p5 : lw_okq (⟨"MutableCells", "readCell", "(LMutableCells$Strand;I)I"⟩, 5) := ⟨⟨by decide +kernel, by decide +kernel⟩, List.mem_of_getElem? (i := 11) (by decide +kernel), List.mem_of_getElem? (i := 281) (by decide +kernel), List.mem_of_getElem? (i := 282) (by decide +kernel)⟩
theorem lw_p6 : lw_okq (⟨"MutableCells", "putCell", "(LMutableCells$Strand;II)V"⟩, 5) := ⟨⟨by decide +kernel, by decide +kernel⟩, List.mem_of_getElem? (i := 11) (by decide +kernel), List.mem_of_getElem? (i := 319) (by decide +kernel), List.mem_of_getElem? (i := 320) (by decide +kernel)⟩
theorem lw_p7 : lw_okq (⟨"MutableCells", "loadItem", "(LMutableCells$Strand;III)I"⟩, 5) := ⟨⟨by decide +kernel, by decide +kernel⟩, List.mem_of_getElem? (i := 11) (by decide +kernel), List.mem_of_getElem? (i := 328) (by decide +kernel), List.mem_of_getElem? (i := 329) (by decide +kernel)⟩
theorem lw_p8 : lw_okq (⟨"MutableCells", "swapCell", "(LMutableCells$Strand;III)I"⟩, 5) := ⟨⟨by decide +kernel, by decide +kernel⟩, List.mem_of_getElem? (i := 11) (by decide +kernel), List.mem_of_getElem? (i := 358) (by decide +kernel), List.mem_of_getElem? (i := 359) (by decide +kernel)⟩
theorem lw_p9 : lw_okq (⟨"MutableCells", "endAtom", "(LMutableCells$Strand;)I"⟩, 5) := ⟨⟨by decide +kernel, by decide +kernel⟩, List.mem_of_getElem? (i := 11) (by decide +kernel), List.mem_of_getElem? (i := 362) (by decide +kernel), List.mem_of_getElem? (i := 363) (by decide +kernel)⟩
theorem lw_p10 : lw_okq (⟨"MutableCells", "isOvertaken", "(LMutableCells$Atom;)Z"⟩, 5) := ⟨⟨by decide +kernel, by decide +kernel⟩, List.mem_of_getElem? (i := 11) (by decide +kernel), List.mem_of_getElem? (i := 366) (by decide +kernel), List.mem_of_getElem? (i := 367) (by decide +kernel)⟩
theorem lw_p11 : lw_okq (⟨"MutableCells$Strand", "divide", "(III)I"⟩, 15) := ⟨⟨by decide +kernel, by decide +kernel⟩, List.mem_of_getElem? (i := 93) (by decide +kernel), List.mem_of_getElem? (i := 413) (by decide +kernel), List.mem_of_getElem? (i := 414) (by decide +kernel)⟩
theorem lw_p12 : lw_okq (⟨"MutableCells$Strand", "beginAtom", "()I"⟩, 15) := ⟨⟨by decide +kernel, by decide +kernel⟩, List.mem_of_getElem? (i := 93) (by decide +kernel), List.mem_of_getElem? (i := 417) (by decide +kernel), List.mem_of_getElem? (i := 418) (by decide +kernel)⟩
theorem lw_p13 : lw_okq (⟨"MutableCells$Strand", "openTry", "(I)I"⟩, 15) := ⟨⟨by decide +kernel, by decide +kernel⟩, List.mem_of_getElem? (i := 93) (by decide +kernel), List.mem_of_getElem? (i := 421) (by decide +kernel), List.mem_of_getElem? (i := 422) (by decide +kernel)⟩
theorem lw_p14 : lw_okq (⟨"MutableCells$Strand", "closeTry", "()I"⟩, 15) := ⟨⟨by decide +kernel, by decide +kernel⟩, List.mem_of_getElem? (i := 93) (by decide +kernel), List.mem_of_getElem? (i := 425) (by decide +kernel), List.mem_of_getElem? (i := 426) (by decide +kernel)⟩
theorem lw_p15 : lw_okq (⟨"MutableCells", "drawn", "(I)LMutableCells$Strand;"⟩, 5) := ⟨⟨by decide +kernel, by decide +kernel⟩, List.mem_of_getElem? (i := 11) (by decide +kernel), List.mem_of_getElem? (i := 438) (by decide +kernel), List.mem_of_getElem? (i := 439) (by decide +kernel)⟩
def lw_privs_1 : List (MethodName × Nat) := [(⟨"MutableCells", "strandOf", "(I)LMutableCells$Strand;"⟩, 5), (⟨"MutableCells", "takeTurn", "(LMutableCells$Strand;)V"⟩, 5), (⟨"MutableCells", "perform", "(LMutableCells$Strand;)I"⟩, 5), (⟨"MutableCells", "getCell", "(LMutableCells$Strand;II)I"⟩, 5), (⟨"MutableCells", "failureOfReading", "(LMutableCells$Strand;I)I"⟩, 5), (⟨"MutableCells", "readCell", "(LMutableCells$Strand;I)I"⟩, 5), (⟨"MutableCells", "putCell", "(LMutableCells$Strand;II)V"⟩, 5), (⟨"MutableCells", "loadItem", "(LMutableCells$Strand;III)I"⟩, 5), (⟨"MutableCells", "swapCell", "(LMutableCells$Strand;III)I"⟩, 5), (⟨"MutableCells", "endAtom", "(LMutableCells$Strand;)I"⟩, 5), (⟨"MutableCells", "isOvertaken", "(LMutableCells$Atom;)Z"⟩, 5), (⟨"MutableCells$Strand", "divide", "(III)I"⟩, 15), (⟨"MutableCells$Strand", "beginAtom", "()I"⟩, 15), (⟨"MutableCells$Strand", "openTry", "(I)I"⟩, 15), (⟨"MutableCells$Strand", "closeTry", "()I"⟩, 15), (⟨"MutableCells", "drawn", "(I)LMutableCells$Strand;"⟩, 5)]
theorem lw_r1 : ∀ q ∈ lw_privs_1, lw_okq q := List.forall_mem_cons.mpr ⟨lw_p0, List.forall_mem_cons.mpr ⟨lw_p1, List.forall_mem_cons.mpr ⟨lw_p2, List.forall_mem_cons.mpr ⟨lw_p3, List.forall_mem_cons.mpr ⟨lw_p4, List.forall_mem_cons.mpr ⟨lw_p5, List.forall_mem_cons.mpr ⟨lw_p6, List.forall_mem_cons.mpr ⟨lw_p7, List.forall_mem_cons.mpr ⟨lw_p8, List.forall_mem_cons.mpr ⟨lw_p9, List.forall_mem_cons.mpr ⟨lw_p10, List.forall_mem_cons.mpr ⟨lw_p11, List.forall_mem_cons.mpr ⟨lw_p12, List.forall_mem_cons.mpr ⟨lw_p13, List.forall_mem_cons.mpr ⟨lw_p14, List.forall_mem_cons.mpr ⟨lw_p15, fun _ h => absurd h List.not_mem_nil⟩⟩⟩⟩⟩⟩⟩⟩⟩⟩⟩⟩⟩⟩⟩⟩
theorem lw_p16 : lw_okq (⟨"MutableCells", "goes", "(I)Z"⟩, 5) := ⟨⟨by decide +kernel, by decide +kernel⟩, List.mem_of_getElem? (i := 11) (by decide +kernel), List.mem_of_getElem? (i := 442) (by decide +kernel), List.mem_of_getElem? (i := 443) (by decide +kernel)⟩
theorem lw_p17 : lw_okq (⟨"MutableCells", "restart", "(Z)I"⟩, 5) := ⟨⟨by decide +kernel, by decide +kernel⟩, List.mem_of_getElem? (i := 11) (by decide +kernel), List.mem_of_getElem? (i := 497) (by decide +kernel), List.mem_of_getElem? (i := 498) (by decide +kernel)⟩
theorem lw_p18 : lw_okq (⟨"MutableCellsModel", "begin", "()V"⟩, 34) := ⟨⟨by decide +kernel, by decide +kernel⟩, List.mem_of_getElem? (i := 512) (by decide +kernel), List.mem_of_getElem? (i := 518) (by decide +kernel), List.mem_of_getElem? (i := 519) (by decide +kernel)⟩
theorem lw_p19 : lw_okq (⟨"MutableCellsModel", "stateOf", "(I)I"⟩, 34) := ⟨⟨by decide +kernel, by decide +kernel⟩, List.mem_of_getElem? (i := 512) (by decide +kernel), List.mem_of_getElem? (i := 648) (by decide +kernel), List.mem_of_getElem? (i := 649) (by decide +kernel)⟩
theorem lw_p20 : lw_okq (⟨"MutableCellsModel", "doTurn", "(I)V"⟩, 34) := ⟨⟨by decide +kernel, by decide +kernel⟩, List.mem_of_getElem? (i := 512) (by decide +kernel), List.mem_of_getElem? (i := 652) (by decide +kernel), List.mem_of_getElem? (i := 653) (by decide +kernel)⟩
theorem lw_p21 : lw_okq (⟨"MutableCellsModel", "doAct", "(I)I"⟩, 34) := ⟨⟨by decide +kernel, by decide +kernel⟩, List.mem_of_getElem? (i := 512) (by decide +kernel), List.mem_of_getElem? (i := 656) (by decide +kernel), List.mem_of_getElem? (i := 657) (by decide +kernel)⟩
theorem lw_p22 : lw_okq (⟨"MutableCellsModel", "give", "(III)V"⟩, 34) := ⟨⟨by decide +kernel, by decide +kernel⟩, List.mem_of_getElem? (i := 512) (by decide +kernel), List.mem_of_getElem? (i := 660) (by decide +kernel), List.mem_of_getElem? (i := 661) (by decide +kernel)⟩
theorem lw_p23 : lw_okq (⟨"MutableCellsModel", "read", "(II)I"⟩, 34) := ⟨⟨by decide +kernel, by decide +kernel⟩, List.mem_of_getElem? (i := 512) (by decide +kernel), List.mem_of_getElem? (i := 664) (by decide +kernel), List.mem_of_getElem? (i := 665) (by decide +kernel)⟩
theorem lw_p24 : lw_okq (⟨"MutableCellsModel", "readPlain", "(II)I"⟩, 34) := ⟨⟨by decide +kernel, by decide +kernel⟩, List.mem_of_getElem? (i := 512) (by decide +kernel), List.mem_of_getElem? (i := 668) (by decide +kernel), List.mem_of_getElem? (i := 669) (by decide +kernel)⟩
theorem lw_p25 : lw_okq (⟨"MutableCellsModel", "write", "(III)V"⟩, 34) := ⟨⟨by decide +kernel, by decide +kernel⟩, List.mem_of_getElem? (i := 512) (by decide +kernel), List.mem_of_getElem? (i := 672) (by decide +kernel), List.mem_of_getElem? (i := 673) (by decide +kernel)⟩
theorem lw_p26 : lw_okq (⟨"MutableCellsModel", "note", "(III)V"⟩, 34) := ⟨⟨by decide +kernel, by decide +kernel⟩, List.mem_of_getElem? (i := 512) (by decide +kernel), List.mem_of_getElem? (i := 676) (by decide +kernel), List.mem_of_getElem? (i := 677) (by decide +kernel)⟩
theorem lw_p27 : lw_okq (⟨"MutableCellsModel", "\x72", "(II)I"⟩, 34) := ⟨⟨by decide +kernel, by decide +kernel⟩, List.mem_of_getElem? (i := 512) (by decide +kernel), List.mem_of_getElem? (i := 680) (by decide +kernel), List.mem_of_getElem? (i := 681) (by decide +kernel)⟩
theorem lw_p28 : lw_okq (⟨"MutableCellsModel", "lay", "(III)V"⟩, 34) := ⟨⟨by decide +kernel, by decide +kernel⟩, List.mem_of_getElem? (i := 512) (by decide +kernel), List.mem_of_getElem? (i := 684) (by decide +kernel), List.mem_of_getElem? (i := 685) (by decide +kernel)⟩
theorem lw_p29 : lw_okq (⟨"MutableCellsModel", "compute", "(IIIII)V"⟩, 34) := ⟨⟨by decide +kernel, by decide +kernel⟩, List.mem_of_getElem? (i := 512) (by decide +kernel), List.mem_of_getElem? (i := 688) (by decide +kernel), List.mem_of_getElem? (i := 689) (by decide +kernel)⟩
theorem lw_p30 : lw_okq (⟨"MutableCellsModel", "swap", "(IIII)V"⟩, 34) := ⟨⟨by decide +kernel, by decide +kernel⟩, List.mem_of_getElem? (i := 512) (by decide +kernel), List.mem_of_getElem? (i := 692) (by decide +kernel), List.mem_of_getElem? (i := 693) (by decide +kernel)⟩
theorem lw_p31 : lw_okq (⟨"MutableCellsModel", "beginAtom", "(I)V"⟩, 34) := ⟨⟨by decide +kernel, by decide +kernel⟩, List.mem_of_getElem? (i := 512) (by decide +kernel), List.mem_of_getElem? (i := 696) (by decide +kernel), List.mem_of_getElem? (i := 697) (by decide +kernel)⟩
def lw_privs_2 : List (MethodName × Nat) := [(⟨"MutableCells", "goes", "(I)Z"⟩, 5), (⟨"MutableCells", "restart", "(Z)I"⟩, 5), (⟨"MutableCellsModel", "begin", "()V"⟩, 34), (⟨"MutableCellsModel", "stateOf", "(I)I"⟩, 34), (⟨"MutableCellsModel", "doTurn", "(I)V"⟩, 34), (⟨"MutableCellsModel", "doAct", "(I)I"⟩, 34), (⟨"MutableCellsModel", "give", "(III)V"⟩, 34), (⟨"MutableCellsModel", "read", "(II)I"⟩, 34), (⟨"MutableCellsModel", "readPlain", "(II)I"⟩, 34), (⟨"MutableCellsModel", "write", "(III)V"⟩, 34), (⟨"MutableCellsModel", "note", "(III)V"⟩, 34), (⟨"MutableCellsModel", "\x72", "(II)I"⟩, 34), (⟨"MutableCellsModel", "lay", "(III)V"⟩, 34), (⟨"MutableCellsModel", "compute", "(IIIII)V"⟩, 34), (⟨"MutableCellsModel", "swap", "(IIII)V"⟩, 34), (⟨"MutableCellsModel", "beginAtom", "(I)V"⟩, 34)]
theorem lw_r2 : ∀ q ∈ lw_privs_2, lw_okq q := List.forall_mem_cons.mpr ⟨lw_p16, List.forall_mem_cons.mpr ⟨lw_p17, List.forall_mem_cons.mpr ⟨lw_p18, List.forall_mem_cons.mpr ⟨lw_p19, List.forall_mem_cons.mpr ⟨lw_p20, List.forall_mem_cons.mpr ⟨lw_p21, List.forall_mem_cons.mpr ⟨lw_p22, List.forall_mem_cons.mpr ⟨lw_p23, List.forall_mem_cons.mpr ⟨lw_p24, List.forall_mem_cons.mpr ⟨lw_p25, List.forall_mem_cons.mpr ⟨lw_p26, List.forall_mem_cons.mpr ⟨lw_p27, List.forall_mem_cons.mpr ⟨lw_p28, List.forall_mem_cons.mpr ⟨lw_p29, List.forall_mem_cons.mpr ⟨lw_p30, List.forall_mem_cons.mpr ⟨lw_p31, fun _ h => absurd h List.not_mem_nil⟩⟩⟩⟩⟩⟩⟩⟩⟩⟩⟩⟩⟩⟩⟩⟩
theorem lw_p32 : lw_okq (⟨"MutableCellsModel", "clearAtom", "(I)V"⟩, 34) := ⟨⟨by decide +kernel, by decide +kernel⟩, List.mem_of_getElem? (i := 512) (by decide +kernel), List.mem_of_getElem? (i := 700) (by decide +kernel), List.mem_of_getElem? (i := 701) (by decide +kernel)⟩
theorem lw_p33 : lw_okq (⟨"MutableCellsModel", "endAtom", "(I)I"⟩, 34) := ⟨⟨by decide +kernel, by decide +kernel⟩, List.mem_of_getElem? (i := 512) (by decide +kernel), List.mem_of_getElem? (i := 704) (by decide +kernel), List.mem_of_getElem? (i := 705) (by decide +kernel)⟩
theorem lw_p34 : lw_okq (⟨"MutableCellsModel", "rows", "(IIIII)V"⟩, 34) := ⟨⟨by decide +kernel, by decide +kernel⟩, List.mem_of_getElem? (i := 512) (by decide +kernel), List.mem_of_getElem? (i := 708) (by decide +kernel), List.mem_of_getElem? (i := 709) (by decide +kernel)⟩
theorem lw_p35 : lw_okq (⟨"MutableCellsModel", "checkItem", "(II)V"⟩, 34) := ⟨⟨by decide +kernel, by decide +kernel⟩, List.mem_of_getElem? (i := 512) (by decide +kernel), List.mem_of_getElem? (i := 712) (by decide +kernel), List.mem_of_getElem? (i := 713) (by decide +kernel)⟩
theorem lw_p36 : lw_okq (⟨"MutableCellsModel", "fail", "(I)V"⟩, 34) := ⟨⟨by decide +kernel, by decide +kernel⟩, List.mem_of_getElem? (i := 512) (by decide +kernel), List.mem_of_getElem? (i := 716) (by decide +kernel), List.mem_of_getElem? (i := 717) (by decide +kernel)⟩
def lw_privs_3 : List (MethodName × Nat) := [(⟨"MutableCellsModel", "clearAtom", "(I)V"⟩, 34), (⟨"MutableCellsModel", "endAtom", "(I)I"⟩, 34), (⟨"MutableCellsModel", "rows", "(IIIII)V"⟩, 34), (⟨"MutableCellsModel", "checkItem", "(II)V"⟩, 34), (⟨"MutableCellsModel", "fail", "(I)V"⟩, 34)]
theorem lw_r3 : ∀ q ∈ lw_privs_3, lw_okq q := List.forall_mem_cons.mpr ⟨lw_p32, List.forall_mem_cons.mpr ⟨lw_p33, List.forall_mem_cons.mpr ⟨lw_p34, List.forall_mem_cons.mpr ⟨lw_p35, List.forall_mem_cons.mpr ⟨lw_p36, fun _ h => absurd h List.not_mem_nil⟩⟩⟩⟩⟩
def lw_privs : List (MethodName × Nat) := lw_privs_1 ++ (lw_privs_2 ++ (lw_privs_3))
def lw_tbl : List Cond := k2_sels lw_privs ++ tables_1
theorem lw_privs_ok : ∀ q ∈ lw_privs, lw_okq q := by
  show ∀ q ∈ lw_privs_1 ++ (lw_privs_2 ++ (lw_privs_3)), lw_okq q
  exact List.forall_mem_append.mpr ⟨lw_r1, List.forall_mem_append.mpr ⟨lw_r2, lw_r3⟩⟩
-- ===== end of PART A; then your names; then what follows =====
/-! ===== BEGIN words of one list among another's, by their places ===== -/
theorem goodIn_r {big : List Cond} (ws : List Cond) (ps : List Nat) (hp : ws = ps.filterMap (fun i => big[i]?)) (h : ws.all goodWord = true) : GoodIn big ws := by
  intro w hw
  have h1 := List.all_eq_true.mp h w hw
  rw [hp] at hw
  obtain ⟨i, -, hi⟩ := List.mem_filterMap.mp hw
  have hm : w ∈ big := by first | exact List.mem_of_getElem? hi | exact List.getElem?_mem hi
  exact ⟨hm, good_of_word h1⟩
theorem goodIn_app {big a b : List Cond} (ha : GoodIn big a) (hb : GoodIn big b) : GoodIn big (a ++ b) := fun w h => (List.mem_append.mp h).elim (ha w) (hb w)
theorem goodIn_ca {big a b : List Cond} {c : Cond} (ha : GoodIn big (c :: a)) (hb : GoodIn big b) : GoodIn big (c :: (a ++ b)) := fun w h => (List.mem_cons.mp h).elim (fun e => ha w (List.mem_cons.mpr (Or.inl e))) (fun h => (List.mem_append.mp h).elim (fun h => ha w (List.mem_cons.mpr (Or.inr h))) (hb w))
theorem goodIn_sub {big ws : List Cond} (hm : ∀ w ∈ ws, w ∈ big) (h : ws.all goodWord = true) : GoodIn big ws := fun w hw => ⟨hm w hw, good_of_word (List.all_eq_true.mp h w hw)⟩
/-! ===== END ===== -/

/-! ===== BEGIN printed: names, fields, word lists, decode rows ===== -/
def RX0 : String := "MutableCells$Atom"
def TX0 : u_T := fun k => match k with
  | 0 => ("MutableCells$Atom", "open", "Z", false)
  | 1 => ("MutableCells$Atom", "behindBegin", "I", false)
  | 2 => ("MutableCells$Atom", "trysAhead", "I", false)
  | 3 => ("MutableCells$Atom", "registers", "[I", true)
  | 4 => ("MutableCells$Atom", "putMarks", "[Z", true)
  | 5 => ("MutableCells$Atom", "putNumbers", "[I", true)
  | 6 => ("MutableCells$Atom", "readMarks", "[Z", true)
  | _ => ("MutableCells$Atom", "firstNumbers", "[I", true)
def tyX0 : Nat → FieldType := fun k => match k with
  | 0 => .boolean
  | 1 => .int
  | 2 => .int
  | 3 => .array .int
  | 4 => .array .boolean
  | 5 => .array .int
  | 6 => .array .boolean
  | _ => .array .int
abbrev wsX00 : List Cond := u_ws RX0 TX0 8
theorem nmX0 : ∀ a, a < 8 → ∀ b, b < 8 → a ≠ b → (TX0 a).2.1 ≠ (TX0 b).2.1 := by decide +kernel
theorem tyX0_ok : ∀ k, k < 8 → parseFieldDescriptor (TX0 k).2.2.1 = some (tyX0 k) := by decide +kernel
abbrev cX0_init : ByteArray := prog_2_method_1_code
def yX0_init : MethodName := ⟨RX0, "<init>", "()V"⟩
abbrev cX0_forget : ByteArray := prog_2_method_2_code
def yX0_forget : MethodName := ⟨RX0, "forget", "()V"⟩
abbrev cX0_hasPut : ByteArray := prog_2_method_3_code
def yX0_hasPut : MethodName := ⟨RX0, "hasPut", "(I)Z"⟩
abbrev cX0_putNumber : ByteArray := prog_2_method_4_code
def yX0_putNumber : MethodName := ⟨RX0, "putNumbe\x72", "(I)I"⟩
abbrev cX0_notePut : ByteArray := prog_2_method_5_code
def yX0_notePut : MethodName := ⟨RX0, "notePut", "(II)V"⟩
abbrev cX0_hasRead : ByteArray := prog_2_method_6_code
def yX0_hasRead : MethodName := ⟨RX0, "hasRead", "(I)Z"⟩
abbrev cX0_firstNumber : ByteArray := prog_2_method_7_code
def yX0_firstNumber : MethodName := ⟨RX0, "firstNumbe\x72", "(I)I"⟩
abbrev cX0_noteReading : ByteArray := prog_2_method_8_code
def yX0_noteReading : MethodName := ⟨RX0, "noteReading", "(II)V"⟩
def RX1 : String := "MutableCells$Cells"
def TX1 : u_T := fun k => match k with
  | 0 => ("MutableCells$Cells", "numbers", "[I", true)
  | 1 => ("MutableCells$Cells", "partners", "[I", true)
  | 2 => ("MutableCells$Cells", "trail", "[I", true)
  | _ => ("MutableCells$Cells", "log", "LMutableCells$Log;", true)
def tyX1 : Nat → FieldType := fun k => match k with
  | 0 => .array .int
  | 1 => .array .int
  | 2 => .array .int
  | _ => .object "MutableCells$Log"
abbrev wsX10 : List Cond := u_ws RX1 TX1 4
theorem nmX1 : ∀ a, a < 4 → ∀ b, b < 4 → a ≠ b → (TX1 a).2.1 ≠ (TX1 b).2.1 := by decide +kernel
theorem tyX1_ok : ∀ k, k < 4 → parseFieldDescriptor (TX1 k).2.2.1 = some (tyX1 k) := by decide +kernel
abbrev cX1_init : ByteArray := prog_3_method_1_code
def yX1_init : MethodName := ⟨RX1, "<init>", "()V"⟩
abbrev cX1_reset : ByteArray := prog_3_method_2_code
def yX1_reset : MethodName := ⟨RX1, "reset", "()V"⟩
abbrev cX1_isLazy : ByteArray := prog_3_method_3_code
def yX1_isLazy : MethodName := ⟨RX1, "isLazy", "(I)Z"⟩
abbrev cX1_shown : ByteArray := prog_3_method_4_code
def yX1_shown : MethodName := ⟨RX1, "shown", "(I)I"⟩
abbrev cX1_hold : ByteArray := prog_3_method_5_code
def yX1_hold : MethodName := ⟨RX1, "hold", "(II)V"⟩
abbrev cX1_defer : ByteArray := prog_3_method_6_code
def yX1_defer : MethodName := ⟨RX1, "defe\x72", "(II)V"⟩
abbrev cX1_count : ByteArray := prog_3_method_7_code
def yX1_count : MethodName := ⟨RX1, "count", "(III)V"⟩
abbrev cX1_leadsToRing : ByteArray := prog_3_method_8_code
def yX1_leadsToRing : MethodName := ⟨RX1, "leadsToRing", "(I)Z"⟩
abbrev cX1_workedOut : ByteArray := prog_3_method_9_code
def yX1_workedOut : MethodName := ⟨RX1, "workedOut", "(II)I"⟩
def RX2 : String := "MutableCells$Log"
def TX2 : u_T := fun k => match k with
  | 0 => ("MutableCells$Log", "threads", "[I", true)
  | 1 => ("MutableCells$Log", "places", "[I", true)
  | 2 => ("MutableCells$Log", "numbers", "[I", true)
  | 3 => ("MutableCells$Log", "latest", "I", false)
  | _ => ("MutableCells$Log", "count", "I", false)
def tyX2 : Nat → FieldType := fun k => match k with
  | 0 => .array .int
  | 1 => .array .int
  | 2 => .array .int
  | 3 => .int
  | _ => .int
abbrev wsX20 : List Cond := u_ws RX2 TX2 5
theorem nmX2 : ∀ a, a < 5 → ∀ b, b < 5 → a ≠ b → (TX2 a).2.1 ≠ (TX2 b).2.1 := by decide +kernel
theorem tyX2_ok : ∀ k, k < 5 → parseFieldDescriptor (TX2 k).2.2.1 = some (tyX2 k) := by decide +kernel
abbrev cX2_init : ByteArray := prog_4_method_1_code
def yX2_init : MethodName := ⟨RX2, "<init>", "()V"⟩
abbrev cX2_add : ByteArray := prog_4_method_2_code
def yX2_add : MethodName := ⟨RX2, "add", "(III)V"⟩
abbrev cX2_tell : ByteArray := prog_4_method_3_code
def yX2_tell : MethodName := ⟨RX2, "tell", "(II)I"⟩
def RX3 : String := "MutableCells$Rows"
def TX3 : u_T := fun k => match k with
  | 0 => ("MutableCells$Rows", "lengths", "[I", true)
  | 1 => ("MutableCells$Rows", "ices", "[Z", true)
  | _ => ("MutableCells$Rows", "items", "[I", true)
def tyX3 : Nat → FieldType := fun k => match k with
  | 0 => .array .int
  | 1 => .array .boolean
  | _ => .array .int
abbrev wsX30 : List Cond := u_ws RX3 TX3 3
theorem nmX3 : ∀ a, a < 3 → ∀ b, b < 3 → a ≠ b → (TX3 a).2.1 ≠ (TX3 b).2.1 := by decide +kernel
theorem tyX3_ok : ∀ k, k < 3 → parseFieldDescriptor (TX3 k).2.2.1 = some (tyX3 k) := by decide +kernel
abbrev cX3_init : ByteArray := prog_5_method_1_code
def yX3_init : MethodName := ⟨RX3, "<init>", "()V"⟩
abbrev cX3_reset : ByteArray := prog_5_method_2_code
def yX3_reset : MethodName := ⟨RX3, "reset", "()V"⟩
abbrev cX3_length : ByteArray := prog_5_method_3_code
def yX3_length : MethodName := ⟨RX3, "length", "(I)I"⟩
abbrev cX3_isFrozen : ByteArray := prog_5_method_4_code
def yX3_isFrozen : MethodName := ⟨RX3, "isFrozen", "(I)Z"⟩
abbrev cX3_hasItem : ByteArray := prog_5_method_5_code
def yX3_hasItem : MethodName := ⟨RX3, "hasItem", "(II)Z"⟩
abbrev cX3_itemOf : ByteArray := prog_5_method_6_code
def yX3_itemOf : MethodName := ⟨RX3, "itemOf", "(II)I"⟩
abbrev cX3_failureAt : ByteArray := prog_5_method_7_code
def yX3_failureAt : MethodName := ⟨RX3, "failureAt", "(II)I"⟩
abbrev cX3_store : ByteArray := prog_5_method_8_code
def yX3_store : MethodName := ⟨RX3, "store", "(III)I"⟩
abbrev cX3_make : ByteArray := prog_5_method_9_code
def yX3_make : MethodName := ⟨RX3, "make", "(II)I"⟩
abbrev cX3_freeze : ByteArray := prog_5_method_10_code
def yX3_freeze : MethodName := ⟨RX3, "freeze", "(I)I"⟩
def RX4 : String := "MutableCells$Strand"
def TX4 : u_T := fun k => match k with
  | 0 => ("MutableCells$Strand", "numbe\x72", "I", true)
  | 1 => ("MutableCells$Strand", "kinds", "[I", true)
  | 2 => ("MutableCells$Strand", "xs", "[I", true)
  | 3 => ("MutableCells$Strand", "ys", "[I", true)
  | 4 => ("MutableCells$Strand", "zs", "[I", true)
  | 5 => ("MutableCells$Strand", "acts", "I", false)
  | 6 => ("MutableCells$Strand", "registers", "[I", true)
  | 7 => ("MutableCells$Strand", "tryPlaces", "[I", true)
  | 8 => ("MutableCells$Strand", "trys", "I", false)
  | 9 => ("MutableCells$Strand", "atom", "LMutableCells$Atom;", true)
  | 10 => ("MutableCells$Strand", "place", "I", false)
  | 11 => ("MutableCells$Strand", "next", "I", false)
  | 12 => ("MutableCells$Strand", "failure", "I", false)
  | 13 => ("MutableCells$Strand", "turns", "I", false)
  | _ => ("MutableCells$Strand", "anews", "I", false)
def tyX4 : Nat → FieldType := fun k => match k with
  | 0 => .int
  | 1 => .array .int
  | 2 => .array .int
  | 3 => .array .int
  | 4 => .array .int
  | 5 => .int
  | 6 => .array .int
  | 7 => .array .int
  | 8 => .int
  | 9 => .object "MutableCells$Atom"
  | 10 => .int
  | 11 => .int
  | 12 => .int
  | 13 => .int
  | _ => .int
abbrev wsX40 : List Cond := u_ws RX4 TX4 15
theorem nmX4 : ∀ a, a < 15 → ∀ b, b < 15 → a ≠ b → (TX4 a).2.1 ≠ (TX4 b).2.1 := by decide +kernel
theorem tyX4_ok : ∀ k, k < 15 → parseFieldDescriptor (TX4 k).2.2.1 = some (tyX4 k) := by decide +kernel
abbrev cX4_init : ByteArray := prog_6_method_1_code
def yX4_init : MethodName := ⟨RX4, "<init>", "(I)V"⟩
abbrev cX4_reset : ByteArray := prog_6_method_2_code
def yX4_reset : MethodName := ⟨RX4, "reset", "(Z)V"⟩
abbrev cX4_append : ByteArray := prog_6_method_3_code
def yX4_append : MethodName := ⟨RX4, "append", "(IIII)Z"⟩
abbrev cX4_state : ByteArray := prog_6_method_4_code
def yX4_state : MethodName := ⟨RX4, "state", "()I"⟩
abbrev cX4_held : ByteArray := prog_6_method_5_code
def yX4_held : MethodName := ⟨RX4, "held", "(I)I"⟩
abbrev cX4_keep : ByteArray := prog_6_method_6_code
def yX4_keep : MethodName := ⟨RX4, "keep", "(II)V"⟩
abbrev cX4_performAlone : ByteArray := prog_6_method_7_code
def yX4_performAlone : MethodName := ⟨RX4, "performAlone", "(IIII)I"⟩
abbrev cX4_divide : ByteArray := prog_6_method_8_code
def yX4_divide : MethodName := ⟨RX4, "divide", "(III)I"⟩
abbrev cX4_openTry : ByteArray := prog_6_method_9_code
def yX4_openTry : MethodName := ⟨RX4, "openTry", "(I)I"⟩
abbrev cX4_closeTry : ByteArray := prog_6_method_10_code
def yX4_closeTry : MethodName := ⟨RX4, "closeTry", "()I"⟩
abbrev cX4_beginAtom : ByteArray := prog_6_method_11_code
def yX4_beginAtom : MethodName := ⟨RX4, "beginAtom", "()I"⟩
abbrev cX4_beginAnew : ByteArray := prog_6_method_12_code
def yX4_beginAnew : MethodName := ⟨RX4, "beginAnew", "()V"⟩
abbrev cX4_fail : ByteArray := prog_6_method_13_code
def yX4_fail : MethodName := ⟨RX4, "fail", "(I)V"⟩
def RX5 : String := "MutableCells"
def TX5 : u_T := fun k => match k with
  | 0 => ("MutableCells", "cells", "LMutableCells$Cells;", true)
  | 1 => ("MutableCells", "rows", "LMutableCells$Rows;", true)
  | 2 => ("MutableCells", "strands", "[LMutableCells$Strand;", true)
  | 3 => ("MutableCells", "turnsDone", "I", false)
  | _ => ("MutableCells", "failures", "I", false)
def tyX5 : Nat → FieldType := fun k => match k with
  | 0 => .object "MutableCells$Cells"
  | 1 => .object "MutableCells$Rows"
  | 2 => .array (.object "MutableCells$Strand")
  | 3 => .int
  | _ => .int
abbrev wsX50 : List Cond := u_ws RX5 TX5 5
theorem nmX5 : ∀ a, a < 5 → ∀ b, b < 5 → a ≠ b → (TX5 a).2.1 ≠ (TX5 b).2.1 := by decide +kernel
theorem tyX5_ok : ∀ k, k < 5 → parseFieldDescriptor (TX5 k).2.2.1 = some (tyX5 k) := by decide +kernel
abbrev cX5_init : ByteArray := prog_1_method_1_code
def yX5_init : MethodName := ⟨RX5, "<init>", "()V"⟩
abbrev cX5_act : ByteArray := prog_1_method_2_code
def yX5_act : MethodName := ⟨RX5, "act", "(IIIII)I"⟩
abbrev cX5_turn : ByteArray := prog_1_method_3_code
def yX5_turn : MethodName := ⟨RX5, "turn", "(I)I"⟩
abbrev cX5_play : ByteArray := prog_1_method_4_code
def yX5_play : MethodName := ⟨RX5, "play", "(II)I"⟩
abbrev cX5_told : ByteArray := prog_1_method_5_code
def yX5_told : MethodName := ⟨RX5, "told", "(II)I"⟩
abbrev cX5_register : ByteArray := prog_1_method_6_code
def yX5_register : MethodName := ⟨RX5, "registe\x72", "(II)I"⟩
abbrev cX5_cell : ByteArray := prog_1_method_7_code
def yX5_cell : MethodName := ⟨RX5, "cell", "(I)I"⟩
abbrev cX5_lazy : ByteArray := prog_1_method_8_code
def yX5_lazy : MethodName := ⟨RX5, "lazy", "(I)I"⟩
abbrev cX5_size : ByteArray := prog_1_method_9_code
def yX5_size : MethodName := ⟨RX5, "size", "(I)I"⟩
abbrev cX5_item : ByteArray := prog_1_method_10_code
def yX5_item : MethodName := ⟨RX5, "item", "(II)I"⟩
abbrev cX5_frozen : ByteArray := prog_1_method_11_code
def yX5_frozen : MethodName := ⟨RX5, "frozen", "(I)I"⟩
abbrev cX5_put : ByteArray := prog_1_method_12_code
def yX5_put : MethodName := ⟨RX5, "put", "(II)I"⟩
abbrev cX5_writes : ByteArray := prog_1_method_13_code
def yX5_writes : MethodName := ⟨RX5, "writes", "()I"⟩
abbrev cX5_write : ByteArray := prog_1_method_14_code
def yX5_write : MethodName := ⟨RX5, "write", "(II)I"⟩
abbrev cX5_again : ByteArray := prog_1_method_15_code
def yX5_again : MethodName := ⟨RX5, "again", "()I"⟩
abbrev cX5_clear : ByteArray := prog_1_method_16_code
def yX5_clear : MethodName := ⟨RX5, "clea\x72", "()I"⟩
abbrev cX5_restart : ByteArray := prog_1_method_17_code
def yX5_restart : MethodName := ⟨RX5, "restart", "(Z)I"⟩
abbrev cX5_strandOf : ByteArray := prog_1_method_18_code
def yX5_strandOf : MethodName := ⟨RX5, "strandOf", "(I)LMutableCells$Strand;"⟩
abbrev cX5_isRegister : ByteArray := prog_1_method_19_code
def yX5_isRegister : MethodName := ⟨RX5, "isRegiste\x72", "(I)Z"⟩
abbrev cX5_isCell : ByteArray := prog_1_method_20_code
def yX5_isCell : MethodName := ⟨RX5, "isCell", "(I)Z"⟩
abbrev cX5_isRow : ByteArray := prog_1_method_21_code
def yX5_isRow : MethodName := ⟨RX5, "isRow", "(I)Z"⟩
abbrev cX5_isPlace : ByteArray := prog_1_method_22_code
def yX5_isPlace : MethodName := ⟨RX5, "isPlace", "(I)Z"⟩
abbrev cX5_mayBe : ByteArray := prog_1_method_23_code
def yX5_mayBe : MethodName := ⟨RX5, "mayBe", "(IIII)Z"⟩
abbrev cX5_drawn : ByteArray := prog_1_method_24_code
def yX5_drawn : MethodName := ⟨RX5, "drawn", "(I)LMutableCells$Strand;"⟩
abbrev cX5_goes : ByteArray := prog_1_method_25_code
def yX5_goes : MethodName := ⟨RX5, "goes", "(I)Z"⟩
abbrev cX5_takeTurn : ByteArray := prog_1_method_26_code
def yX5_takeTurn : MethodName := ⟨RX5, "takeTurn", "(LMutableCells$Strand;)V"⟩
abbrev cX5_perform : ByteArray := prog_1_method_27_code
def yX5_perform : MethodName := ⟨RX5, "perform", "(LMutableCells$Strand;)I"⟩
abbrev cX5_isBarredFromAtoms : ByteArray := prog_1_method_28_code
def yX5_isBarredFromAtoms : MethodName := ⟨RX5, "isBarredFromAtoms", "(I)Z"⟩
abbrev cX5_loadItem : ByteArray := prog_1_method_29_code
def yX5_loadItem : MethodName := ⟨RX5, "loadItem", "(LMutableCells$Strand;III)I"⟩
abbrev cX5_getCell : ByteArray := prog_1_method_30_code
def yX5_getCell : MethodName := ⟨RX5, "getCell", "(LMutableCells$Strand;II)I"⟩
abbrev cX5_swapCell : ByteArray := prog_1_method_31_code
def yX5_swapCell : MethodName := ⟨RX5, "swapCell", "(LMutableCells$Strand;III)I"⟩
abbrev cX5_failureOfReading : ByteArray := prog_1_method_32_code
def yX5_failureOfReading : MethodName := ⟨RX5, "failureOfReading", "(LMutableCells$Strand;I)I"⟩
abbrev cX5_readCell : ByteArray := prog_1_method_33_code
def yX5_readCell : MethodName := ⟨RX5, "readCell", "(LMutableCells$Strand;I)I"⟩
abbrev cX5_putCell : ByteArray := prog_1_method_34_code
def yX5_putCell : MethodName := ⟨RX5, "putCell", "(LMutableCells$Strand;II)V"⟩
abbrev cX5_endAtom : ByteArray := prog_1_method_35_code
def yX5_endAtom : MethodName := ⟨RX5, "endAtom", "(LMutableCells$Strand;)I"⟩
abbrev cX5_isOvertaken : ByteArray := prog_1_method_36_code
def yX5_isOvertaken : MethodName := ⟨RX5, "isOvertaken", "(LMutableCells$Atom;)Z"⟩
def RX6 : String := "MutableCellsModel"
def TX6 : u_T := fun k => match k with
  | 0 => ("MutableCellsModel", "failures", "I", false)
  | 1 => ("MutableCellsModel", "cells", "[I", true)
  | 2 => ("MutableCellsModel", "isLazy", "[Z", true)
  | 3 => ("MutableCellsModel", "isRead", "[Z", true)
  | 4 => ("MutableCellsModel", "sizes", "[I", true)
  | 5 => ("MutableCellsModel", "items", "[I", true)
  | 6 => ("MutableCellsModel", "isFrozen", "[Z", true)
  | 7 => ("MutableCellsModel", "many", "[I", true)
  | 8 => ("MutableCellsModel", "kind", "[I", true)
  | 9 => ("MutableCellsModel", "actX", "[I", true)
  | 10 => ("MutableCellsModel", "actY", "[I", true)
  | 11 => ("MutableCellsModel", "actZ", "[I", true)
  | 12 => ("MutableCellsModel", "registers", "[I", true)
  | 13 => ("MutableCellsModel", "place", "[I", true)
  | 14 => ("MutableCellsModel", "failedBy", "[I", true)
  | 15 => ("MutableCellsModel", "hasFailed", "[Z", true)
  | 16 => ("MutableCellsModel", "turns", "[I", true)
  | 17 => ("MutableCellsModel", "anew", "[I", true)
  | 18 => ("MutableCellsModel", "tries", "[I", true)
  | 19 => ("MutableCellsModel", "tryPlace", "[I", true)
  | 20 => ("MutableCellsModel", "isAtom", "[Z", true)
  | 21 => ("MutableCellsModel", "atomTries", "[I", true)
  | 22 => ("MutableCellsModel", "atomPlace", "[I", true)
  | 23 => ("MutableCellsModel", "atomRegisters", "[I", true)
  | 24 => ("MutableCellsModel", "wasRead", "[Z", true)
  | 25 => ("MutableCellsModel", "firstRead", "[I", true)
  | 26 => ("MutableCellsModel", "wasPut", "[Z", true)
  | 27 => ("MutableCellsModel", "putThere", "[I", true)
  | 28 => ("MutableCellsModel", "writes", "I", false)
  | 29 => ("MutableCellsModel", "writeThread", "[I", true)
  | 30 => ("MutableCellsModel", "writeCell", "[I", true)
  | 31 => ("MutableCellsModel", "writeNumbe\x72", "[I", true)
  | 32 => ("MutableCellsModel", "failure", "I", false)
  | _ => ("MutableCellsModel", "chain", "[I", true)
def tyX6 : Nat → FieldType := fun k => match k with
  | 0 => .int
  | 1 => .array .int
  | 2 => .array .boolean
  | 3 => .array .boolean
  | 4 => .array .int
  | 5 => .array .int
  | 6 => .array .boolean
  | 7 => .array .int
  | 8 => .array .int
  | 9 => .array .int
  | 10 => .array .int
  | 11 => .array .int
  | 12 => .array .int
  | 13 => .array .int
  | 14 => .array .int
  | 15 => .array .boolean
  | 16 => .array .int
  | 17 => .array .int
  | 18 => .array .int
  | 19 => .array .int
  | 20 => .array .boolean
  | 21 => .array .int
  | 22 => .array .int
  | 23 => .array .int
  | 24 => .array .boolean
  | 25 => .array .int
  | 26 => .array .boolean
  | 27 => .array .int
  | 28 => .int
  | 29 => .array .int
  | 30 => .array .int
  | 31 => .array .int
  | 32 => .int
  | _ => .array .int
abbrev wsX60 : List Cond := u_ws RX6 TX6 34
theorem nmX6 : ∀ a, a < 34 → ∀ b, b < 34 → a ≠ b → (TX6 a).2.1 ≠ (TX6 b).2.1 := by decide +kernel
theorem tyX6_ok : ∀ k, k < 34 → parseFieldDescriptor (TX6 k).2.2.1 = some (tyX6 k) := by decide +kernel
abbrev cX6_init : ByteArray := prog_8_method_1_code
def yX6_init : MethodName := ⟨RX6, "<init>", "()V"⟩
abbrev cX6_within : ByteArray := prog_8_method_3_code
def yX6_within : MethodName := ⟨RX6, "within", "(III)Z"⟩
abbrev cX6_begin : ByteArray := prog_8_method_4_code
def yX6_begin : MethodName := ⟨RX6, "begin", "()V"⟩
abbrev cX6_isRegister : ByteArray := prog_8_method_5_code
def yX6_isRegister : MethodName := ⟨RX6, "isRegiste\x72", "(I)Z"⟩
abbrev cX6_isCell : ByteArray := prog_8_method_6_code
def yX6_isCell : MethodName := ⟨RX6, "isCell", "(I)Z"⟩
abbrev cX6_isPlaceIn : ByteArray := prog_8_method_7_code
def yX6_isPlaceIn : MethodName := ⟨RX6, "isPlaceIn", "(I)Z"⟩
abbrev cX6_fits : ByteArray := prog_8_method_8_code
def yX6_fits : MethodName := ⟨RX6, "fits", "(IIII)Z"⟩
abbrev cX6_act : ByteArray := prog_8_method_9_code
def yX6_act : MethodName := ⟨RX6, "act", "(IIIII)I"⟩
abbrev cX6_stateOf : ByteArray := prog_8_method_10_code
def yX6_stateOf : MethodName := ⟨RX6, "stateOf", "(I)I"⟩
abbrev cX6_note : ByteArray := prog_8_method_11_code
def yX6_note : MethodName := ⟨RX6, "note", "(III)V"⟩
abbrev cX6_write : ByteArray := prog_8_method_12_code
def yX6_write : MethodName := ⟨RX6, "write", "(III)V"⟩
abbrev cX6_readPlain : ByteArray := prog_8_method_13_code
def yX6_readPlain : MethodName := ⟨RX6, "readPlain", "(II)I"⟩
abbrev cX6_read : ByteArray := prog_8_method_14_code
def yX6_read : MethodName := ⟨RX6, "read", "(II)I"⟩
abbrev cX6_lay : ByteArray := prog_8_method_15_code
def yX6_lay : MethodName := ⟨RX6, "lay", "(III)V"⟩
abbrev cX6_clearAtom : ByteArray := prog_8_method_16_code
def yX6_clearAtom : MethodName := ⟨RX6, "clearAtom", "(I)V"⟩
abbrev cX6_beginAtom : ByteArray := prog_8_method_17_code
def yX6_beginAtom : MethodName := ⟨RX6, "beginAtom", "(I)V"⟩
abbrev cX6_endAtom : ByteArray := prog_8_method_18_code
def yX6_endAtom : MethodName := ⟨RX6, "endAtom", "(I)I"⟩
abbrev cX6_r : ByteArray := prog_8_method_19_code
def yX6_r : MethodName := ⟨RX6, "\x72", "(II)I"⟩
abbrev cX6_give : ByteArray := prog_8_method_20_code
def yX6_give : MethodName := ⟨RX6, "give", "(III)V"⟩
abbrev cX6_checkItem : ByteArray := prog_8_method_21_code
def yX6_checkItem : MethodName := ⟨RX6, "checkItem", "(II)V"⟩
abbrev cX6_compute : ByteArray := prog_8_method_22_code
def yX6_compute : MethodName := ⟨RX6, "compute", "(IIIII)V"⟩
abbrev cX6_swap : ByteArray := prog_8_method_23_code
def yX6_swap : MethodName := ⟨RX6, "swap", "(IIII)V"⟩
abbrev cX6_rows : ByteArray := prog_8_method_24_code
def yX6_rows : MethodName := ⟨RX6, "rows", "(IIIII)V"⟩
abbrev cX6_doAct : ByteArray := prog_8_method_25_code
def yX6_doAct : MethodName := ⟨RX6, "doAct", "(I)I"⟩
abbrev cX6_fail : ByteArray := prog_8_method_26_code
def yX6_fail : MethodName := ⟨RX6, "fail", "(I)V"⟩
abbrev cX6_doTurn : ByteArray := prog_8_method_27_code
def yX6_doTurn : MethodName := ⟨RX6, "doTurn", "(I)V"⟩
abbrev cX6_turn : ByteArray := prog_8_method_28_code
def yX6_turn : MethodName := ⟨RX6, "turn", "(I)I"⟩
abbrev cX6_play : ByteArray := prog_8_method_29_code
def yX6_play : MethodName := ⟨RX6, "play", "(II)I"⟩
abbrev cX6_told : ByteArray := prog_8_method_30_code
def yX6_told : MethodName := ⟨RX6, "told", "(II)I"⟩
abbrev cX6_register : ByteArray := prog_8_method_31_code
def yX6_register : MethodName := ⟨RX6, "registe\x72", "(II)I"⟩
abbrev cX6_cell : ByteArray := prog_8_method_32_code
def yX6_cell : MethodName := ⟨RX6, "cell", "(I)I"⟩
abbrev cX6_lazy : ByteArray := prog_8_method_33_code
def yX6_lazy : MethodName := ⟨RX6, "lazy", "(I)I"⟩
abbrev cX6_size : ByteArray := prog_8_method_34_code
def yX6_size : MethodName := ⟨RX6, "size", "(I)I"⟩
abbrev cX6_item : ByteArray := prog_8_method_35_code
def yX6_item : MethodName := ⟨RX6, "item", "(II)I"⟩
abbrev cX6_frozen : ByteArray := prog_8_method_36_code
def yX6_frozen : MethodName := ⟨RX6, "frozen", "(I)I"⟩
abbrev cX6_put : ByteArray := prog_8_method_37_code
def yX6_put : MethodName := ⟨RX6, "put", "(II)I"⟩
abbrev cX6_writes : ByteArray := prog_8_method_38_code
def yX6_writes : MethodName := ⟨RX6, "writes", "()I"⟩
abbrev cX6_write_ : ByteArray := prog_8_method_39_code
def yX6_write_ : MethodName := ⟨RX6, "write", "(II)I"⟩
abbrev cX6_again : ByteArray := prog_8_method_40_code
def yX6_again : MethodName := ⟨RX6, "again", "()I"⟩
abbrev cX6_clear : ByteArray := prog_8_method_41_code
def yX6_clear : MethodName := ⟨RX6, "clea\x72", "()I"⟩
def RJ10 : String := "java/lang/System"
def TJ10 : u_T := fun k => match k with
  | _ => ("", "", "", false)
def tyJ10 : Nat → FieldType := fun k => match k with
  | _ => .int
abbrev wsJ100 : List Cond := u_ws RJ10 TJ10 0
theorem nmJ10 : ∀ a, a < 0 → ∀ b, b < 0 → a ≠ b → (TJ10 a).2.1 ≠ (TJ10 b).2.1 := by decide +kernel
theorem tyJ10_ok : ∀ k, k < 0 → parseFieldDescriptor (TJ10 k).2.2.1 = some (tyJ10 k) := by decide +kernel
def RJ7 : String := "java/util/Arrays"
def TJ7 : u_T := fun k => match k with
  | _ => ("", "", "", false)
def tyJ7 : Nat → FieldType := fun k => match k with
  | _ => .int
abbrev wsJ70 : List Cond := u_ws RJ7 TJ7 0
theorem nmJ7 : ∀ a, a < 0 → ∀ b, b < 0 → a ≠ b → (TJ7 a).2.1 ≠ (TJ7 b).2.1 := by decide +kernel
theorem tyJ7_ok : ∀ k, k < 0 → parseFieldDescriptor (TJ7 k).2.2.1 = some (tyJ7 k) := by decide +kernel
abbrev cJ7_rangeCheck_23922 : ByteArray := prog_10_method_30_code
def yJ7_rangeCheck_23922 : MethodName := ⟨RJ7, "rangeCheck", "(III)V"⟩
abbrev cJ7_fill_53178 : ByteArray := prog_10_method_103_code
def yJ7_fill_53178 : MethodName := ⟨RJ7, "fill", "([II)V"⟩
abbrev cJ7_fill_fda19 : ByteArray := prog_10_method_104_code
def yJ7_fill_fda19 : MethodName := ⟨RJ7, "fill", "([IIII)V"⟩
def RL : String := "MutableCellsLaw"
abbrev cL_law : ByteArray := code
def yL_law : MethodName := ⟨RL, "law", "([I)Z"⟩
abbrev vwCl : List vw_C := [(RX0, TX0, 8), (RX1, TX1, 4), (RX2, TX2, 5), (RX3, TX3, 3), (RX4, TX4, 15), (RX5, TX5, 5), (RX6, TX6, 34)]
