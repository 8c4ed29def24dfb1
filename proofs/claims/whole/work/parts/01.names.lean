-- ===== PART A: goes FIRST, ahead of the names: the tables' words, and 'selects' of the private methods out of them =====
/-- a private method of a class that the tables say can be made, by its rows of tables_1 -/
def lw_okq (q : MethodName × Nat) : Prop := (q.1.cls ≠ "java/lang/invoke/MethodHandle" ∧ q.1.cls ≠ "java/lang/invoke/VarHandle") ∧ Cond.instantiable q.1.cls q.2 ∈ tables_1 ∧ Cond.privateMethod q.1 ∈ tables_1 ∧ Cond.instanceMethod q.1 ∈ tables_1
theorem lw_p0 : lw_okq (⟨"MutableCells", "strandOf", "(I)LMutableCells$Strand;"⟩, 5) := ⟨⟨by decide +kernel, by decide +kernel⟩, List.mem_of_getElem? (i := 11) (by decide +kernel), List.mem_of_getElem? (i := 212) (by decide +kernel), List.mem_of_getElem? (i := 213) (by decide +kernel)⟩
theorem lw_p1 : lw_okq (⟨"MutableCells", "takeTurn", "(LMutableCells$Strand;)V"⟩, 5) := ⟨⟨by decide +kernel, by decide +kernel⟩, List.mem_of_getElem? (i := 11) (by decide +kernel), List.mem_of_getElem? (i := 243) (by decide +kernel), List.mem_of_getElem? (i := 244) (by decide +kernel)⟩
theorem lw_p2 : lw_okq (⟨"MutableCells", "perform", "(LMutableCells$Strand;)I"⟩, 5) := ⟨⟨by decide +kernel, by decide +kernel⟩, List.mem_of_getElem? (i := 11) (by decide +kernel), List.mem_of_getElem? (i := 247) (by decide +kernel), List.mem_of_getElem? (i := 248) (by decide +kernel)⟩
theorem lw_p3 : lw_okq (⟨"MutableCells", "getCell", "(LMutableCells$Strand;II)I"⟩, 5) := ⟨⟨by decide +kernel, by decide +kernel⟩, List.mem_of_getElem? (i := 11) (by decide +kernel), List.mem_of_getElem? (i := 254) (by decide +kernel), List.mem_of_getElem? (i := 255) (by decide +kernel)⟩
theorem lw_p4 : lw_okq (⟨"MutableCells", "failureOfReading", "(LMutableCells$Strand;I)I"⟩, 5) := ⟨⟨by decide +kernel, by decide +kernel⟩, List.mem_of_getElem? (i := 11) (by decide +kernel), List.mem_of_getElem? (i := 258) (by decide +kernel), List.mem_of_getElem? (i := 259) (by decide +kernel)⟩
theorem lw_p5 : lw_okq (⟨"MutableCells", "readCell", "(LMutableCells$Strand;I)I"⟩, 5) := ⟨⟨by decide +kernel, by decide +kernel⟩, List.mem_of_getElem? (i := 11) (by decide +kernel), List.mem_of_getElem? (i := 281) (by decide +kernel), List.mem_of_getElem? (i := 282) (by decide +kernel)⟩
theorem lw_p6 : lw_okq (⟨"MutableCells", "putCell", "(LMutableCells$Strand;II)V"⟩, 5) := ⟨⟨by decide +kernel, by decide +kernel⟩, List.mem_of_getElem? (i := 11) (by decide +kernel), List.mem_of_getElem? (i := 319) (by decide +kernel), List.mem_of_getElem? (i := 320) (by decide +kernel)⟩
theorem lw_p7 : lw_okq (⟨"MutableCells", "loadItem", "(LMutableCells$Strand;III)I"⟩, 5) := ⟨⟨by decide +kernel, by decide +kernel⟩, List.mem_of_getElem? (i := 11) (by decide +kernel), List.mem_of_getElem? (i := 328) (by decide +kernel), List.mem_of_getElem? (i := 329) (by decide +kernel)⟩
theorem lw_p8 : lw_okq (⟨"MutableCells", "swapCell", "(LMutableCells$Strand;III)I"⟩, 5) := ⟨⟨by decide +kernel, by decide +kernel⟩, List.mem_of_getElem? (i := 11) (by decide +kernel), List.mem_of_getElem? (i := 358) (by decide +kernel), List.mem_of_getElem? (i := 359) (by decide +kernel)⟩
theorem lw_p9 : lw_okq (⟨"MutableCells", "endAtom", "(LMutableCells$Strand;)I"⟩, 5) := ⟨⟨by decide +kernel, by decide +kernel⟩, List.mem_of_getElem? (i := 11) (by decide +kernel), List.mem_of_getElem? (i := 362) (by decide +kernel), List.mem_of_getElem? (i := 363) (by decide +kernel)⟩
theorem lw_p10 : lw_okq (⟨"MutableCells", "isOvertaken", "(LMutableCells$Atom;)Z"⟩, 5) := ⟨⟨by decide +kernel, by decide +kernel⟩, List.mem_of_getElem? (i := 11) (by decide +kernel), List.mem_of_getElem? (i := 366) (by decide +kernel), List.mem_of_getElem? (i := 367) (by decide +kernel)⟩
theorem lw_p11 : lw_okq (⟨"MutableCells$Strand", "divide", "(III)I"⟩, 15) := ⟨⟨by decide +kernel, by decide +kernel⟩, List.mem_of_getElem? (i := 93) (by decide +kernel), List.mem_of_getElem? (i := 413) (by decide +kernel), List.mem_of_getElem? (i := 414) (by decide +kernel)⟩
theorem lw_p12 : lw_okq (⟨"MutableCells$Strand", "beginAtom", "()I"⟩, 15) := ⟨⟨by decide +kernel, by decide +kernel⟩, List.mem_of_getElem? (i := 93) (by decide +kernel), List.mem_of_getElem? (i := 417) (by decide +kernel), List.mem_of_getElem? (i := 418) (by decide +kernel)⟩
theorem lw_p13 : lw_okq (⟨"MutableCells$Strand", "openTry", "(I)I"⟩, 15) := ⟨⟨by decide +kernel, by decide +kernel⟩, List.mem_of_getElem? (i := 93) (by decide +kernel), List.mem_of_getElem? (i := 421) (by decide +kernel), List.mem_of_getElem? (i := 422) (by decide +kernel)⟩
theorem lw_p14 : lw_okq (⟨"MutableCells$Strand", "closeTry", "()I"⟩, 15) := ⟨⟨by decide +kernel, by decide +kernel⟩, List.mem_of_getElem? (i := 93) (by decide +kernel), List.mem_of_getElem? (i := 425) (by decide +kernel), List.mem_of_getElem? (i := 426) (by decide +kernel)⟩
theorem lw_p15 : lw_okq (⟨"MutableCells", "drawn", "(I)LMutableCells$Strand;"⟩, 5) := ⟨⟨by decide +kernel, by decide +kernel⟩, List.mem_of_getElem? (i := 11) (by decide +kernel), List.mem_of_getElem? (i := 438) (by decide +kernel), List.mem_of_getElem? (i := 439) (by decide +kernel)⟩
def lw_privs_1 : List (MethodName × Nat) := [(⟨"MutableCells", "strandOf", "(I)LMutableCells$Strand;"⟩, 5), (⟨"MutableCells", "takeTurn", "(LMutableCells$Strand;)V"⟩, 5), (⟨"MutableCells", "perform", "(LMutableCells$Strand;)I"⟩, 5), (⟨"MutableCells", "getCell", "(LMutableCells$Strand;II)I"⟩, 5), (⟨"MutableCells", "failureOfReading", "(LMutableCells$Strand;I)I"⟩, 5), (⟨"MutableCells", "readCell", "(LMutableCells$Strand;I)I"⟩, 5), (⟨"MutableCells", "putCell", "(LMutableCells$Strand;II)V"⟩, 5), (⟨"MutableCells", "loadItem", "(LMutableCells$Strand;III)I"⟩, 5), (⟨"MutableCells", "swapCell", "(LMutableCells$Strand;III)I"⟩, 5), (⟨"MutableCells", "endAtom", "(LMutableCells$Strand;)I"⟩, 5), (⟨"MutableCells", "isOvertaken", "(LMutableCells$Atom;)Z"⟩, 5), (⟨"MutableCells$Strand", "divide", "(III)I"⟩, 15), (⟨"MutableCells$Strand", "beginAtom", "()I"⟩, 15), (⟨"MutableCells$Strand", "openTry", "(I)I"⟩, 15), (⟨"MutableCells$Strand", "closeTry", "()I"⟩, 15), (⟨"MutableCells", "drawn", "(I)LMutableCells$Strand;"⟩, 5)]
theorem lw_r1 : ∀ q ∈ lw_privs_1, lw_okq q := List.forall_mem_cons.mpr ⟨lw_p0, List.forall_mem_cons.mpr ⟨lw_p1, List.forall_mem_cons.mpr ⟨lw_p2, List.forall_mem_cons.mpr ⟨lw_p3, List.forall_mem_cons.mpr ⟨lw_p4, List.forall_mem_cons.mpr ⟨lw_p5, List.forall_mem_cons.mpr ⟨lw_p6, List.forall_mem_cons.mpr ⟨lw_p7, List.forall_mem_cons.mpr ⟨lw_p8, List.forall_mem_cons.mpr ⟨lw_p9, List.forall_mem_cons.mpr ⟨lw_p10, List.forall_mem_cons.mpr ⟨lw_p11, List.forall_mem_cons.mpr ⟨lw_p12, List.forall_mem_cons.mpr ⟨lw_p13, List.forall_mem_cons.mpr ⟨lw_p14, List.forall_mem_cons.mpr ⟨lw_p15, fun _ h => absurd h List.not_mem_nil⟩⟩⟩⟩⟩⟩⟩⟩⟩⟩⟩⟩⟩⟩⟩⟩
theorem lw_p16 : lw_okq (⟨"MutableCells", "goes", "(I)Z"⟩, 5) := ⟨⟨by decide +kernel, by decide +kernel⟩, List.mem_of_getElem? (i := 11) (by decide +kernel), List.mem_of_getElem? (i := 442) (by decide +kernel), List.mem_of_getElem? (i := 443) (by decide +kernel)⟩
theorem lw_p17 : lw_okq (⟨"MutableCells", "restart", "(Z)I"⟩, 5) := ⟨⟨by decide +kernel, by decide +kernel⟩, List.mem_of_getElem? (i := 11) (by decide +kernel), List.mem_of_getElem? (i := 497) (by decide +kernel), List.mem_of_getElem? (i := 498) (by decide +kernel)⟩
theorem lw_p18 : lw_okq (⟨"MutableCellsModel", "begin", "()V"⟩, 34) := ⟨⟨by decide +kernel, by decide +kernel⟩, List.mem_of_getElem? (i := 512) (by decide +kernel), List.mem_of_getElem? (i := 518) (by decide +kernel), List.mem_of_getElem? (i := 519) (by decide +kernel)⟩
theorem lw_p19 : lw_okq (⟨"MutableCellsModel", "stateOf", "(I)I"⟩, 34) := ⟨⟨by decide +kernel, by decide +kernel⟩, List.mem_of_getElem? (i := 512) (by decide +kernel), List.mem_of_getElem? (i := 648) (by decide +kernel), List.mem_of_getElem? (i := 649) (by decide +kernel)⟩
theorem lw_p20 : lw_okq (⟨"MutableCellsModel", "doTurn", "(I)V"⟩, 34) := ⟨⟨by decide +kernel, by decide +kernel⟩, List.mem_of_getElem? (i := 512) (by decide +kernel), List.mem_of_getElem? (i := 652) (by decide +kernel), List.mem_of_getElem? (i := 653) (by decide +kernel)⟩
theorem lw_p21 : lw_okq (⟨"MutableCellsModel", "doAct", "(I)I"⟩, 34) := ⟨⟨by decide +kernel, by decide +kernel⟩, List.mem_of_getElem? (i := 512) (by decide +kernel), List.mem_of_getElem? (i := 656) (by decide +kernel), List.mem_of_getElem? (i := 657) (by decide +kernel)⟩
theorem lw_p22 : lw_okq (⟨"MutableCellsModel", "give", "(III)V"⟩, 34) := ⟨⟨by decide +kernel, by decide +kernel⟩, List.mem_of_getElem? (i := 512) (by decide +kernel), List.mem_of_getElem? (i := 660) (by decide +kernel), List.mem_of_getElem? (i := 661) (by decide +kernel)⟩
theorem lw_p23 : lw_okq (⟨"MutableCellsModel", "read", "(II)I"⟩, 34) := ⟨⟨by decide +kernel, by decide +kernel⟩, List.mem_of_getElem? (i := 512) (by decide +kernel), List.mem_of_getElem? (i := 664) (by decide +kernel), List.mem_of_getElem? (i := 665) (by decide +kernel)⟩
theorem lw_p24 : lw_okq (⟨"MutableCellsModel", "readPlain", "(II)I"⟩, 34) := ⟨⟨by decide +kernel, by decide +kernel⟩, List.mem_of_getElem? (i := 512) (by decide +kernel), List.mem_of_getElem? (i := 668) (by decide +kernel), List.mem_of_getElem? (i := 669) (by decide +kernel)⟩
theorem lw_p25 : lw_okq (⟨"MutableCellsModel", "write", "(III)V"⟩, 34) := ⟨⟨by decide +kernel, by decide +kernel⟩, List.mem_of_getElem? (i := 512) (by decide +kernel), List.mem_of_getElem? (i := 672) (by decide +kernel), List.mem_of_getElem? (i := 673) (by decide +kernel)⟩
theorem lw_p26 : lw_okq (⟨"MutableCellsModel", "note", "(III)V"⟩, 34) := ⟨⟨by decide +kernel, by decide +kernel⟩, List.mem_of_getElem? (i := 512) (by decide +kernel), List.mem_of_getElem? (i := 676) (by decide +kernel), List.mem_of_getElem? (i := 677) (by decide +kernel)⟩
theorem lw_p27 : lw_okq (⟨"MutableCellsModel", "\x72", "(II)I"⟩, 34) := ⟨⟨by decide +kernel, by decide +kernel⟩, List.mem_of_getElem? (i := 512) (by decide +kernel), List.mem_of_getElem? (i := 680) (by decide +kernel), List.mem_of_getElem? (i := 681) (by decide +kernel)⟩
theorem lw_p28 : lw_okq (⟨"MutableCellsModel", "lay", "(III)V"⟩, 34) := ⟨⟨by decide +kernel, by decide +kernel⟩, List.mem_of_getElem? (i := 512) (by decide +kernel), List.mem_of_getElem? (i := 684) (by decide +kernel), List.mem_of_getElem? (i := 685) (by decide +kernel)⟩
theorem lw_p29 : lw_okq (⟨"MutableCellsModel", "compute", "(IIIII)V"⟩, 34) := ⟨⟨by decide +kernel, by decide +kernel⟩, List.mem_of_getElem? (i := 512) (by decide +kernel), List.mem_of_getElem? (i := 688) (by decide +kernel), List.mem_of_getElem? (i := 689) (by decide +kernel)⟩
theorem lw_p30 : lw_okq (⟨"MutableCellsModel", "swap", "(IIII)V"⟩, 34) := ⟨⟨by decide +kernel, by decide +kernel⟩, List.mem_of_getElem? (i := 512) (by decide +kernel), List.mem_of_getElem? (i := 692) (by decide +kernel), List.mem_of_getElem? (i := 693) (by decide +kernel)⟩
theorem lw_p31 : lw_okq (⟨"MutableCellsModel", "beginAtom", "(I)V"⟩, 34) := ⟨⟨by decide +kernel, by decide +kernel⟩, List.mem_of_getElem? (i := 512) (by decide +kernel), List.mem_of_getElem? (i := 696) (by decide +kernel), List.mem_of_getElem? (i := 697) (by decide +kernel)⟩
def lw_privs_2 : List (MethodName × Nat) := [(⟨"MutableCells", "goes", "(I)Z"⟩, 5), (⟨"MutableCells", "restart", "(Z)I"⟩, 5), (⟨"MutableCellsModel", "begin", "()V"⟩, 34), (⟨"MutableCellsModel", "stateOf", "(I)I"⟩, 34), (⟨"MutableCellsModel", "doTurn", "(I)V"⟩, 34), (⟨"MutableCellsModel", "doAct", "(I)I"⟩, 34), (⟨"MutableCellsModel", "give", "(III)V"⟩, 34), (⟨"MutableCellsModel", "read", "(II)I"⟩, 34), (⟨"MutableCellsModel", "readPlain", "(II)I"⟩, 34), (⟨"MutableCellsModel", "write", "(III)V"⟩, 34), (⟨"MutableCellsModel", "note", "(III)V"⟩, 34), (⟨"MutableCellsModel", "\x72", "(II)I"⟩, 34), (⟨"MutableCellsModel", "lay", "(III)V"⟩, 34), (⟨"MutableCellsModel", "compute", "(IIIII)V"⟩, 34), (⟨"MutableCellsModel", "swap", "(IIII)V"⟩, 34), (⟨"MutableCellsModel", "beginAtom", "(I)V"⟩, 34)]
theorem lw_r2 : ∀ q ∈ lw_privs_2, lw_okq q := List.forall_mem_cons.mpr ⟨lw_p16, List.forall_mem_cons.mpr ⟨lw_p17, List.forall_mem_cons.mpr ⟨lw_p18, List.forall_mem_cons.mpr ⟨lw_p19, List.forall_mem_cons.mpr ⟨lw_p20, List.forall_mem_cons.mpr ⟨lw_p21, List.forall_mem_cons.mpr ⟨lw_p22, List.forall_mem_cons.mpr ⟨lw_p23, List.forall_mem_cons.mpr ⟨lw_p24, List.forall_mem_cons.mpr ⟨lw_p25, List.forall_mem_cons.mpr ⟨lw_p26, List.forall_mem_cons.mpr ⟨lw_p27, List.forall_mem_cons.mpr ⟨lw_p28, List.forall_mem_cons.mpr ⟨lw_p29, List.forall_mem_cons.mpr ⟨lw_p30, List.forall_mem_cons.mpr ⟨lw_p31, fun _ h => absurd h List.not_mem_nil⟩⟩⟩⟩⟩⟩⟩⟩⟩⟩⟩⟩⟩⟩⟩⟩
theorem lw_p32 : lw_okq (⟨"MutableCellsModel", "clearAtom", "(I)V"⟩, 34) := ⟨⟨by decide +kernel, by decide +kernel⟩, List.mem_of_getElem? (i := 512) (by decide +kernel), List.mem_of_getElem? (i := 700) (by decide +kernel), List.mem_of_getElem? (i := 701) (by decide +kernel)⟩
theorem lw_p33 : lw_okq (⟨"MutableCellsModel", "endAtom", "(I)I"⟩, 34) := ⟨⟨by decide +kernel, by decide +kernel⟩, List.mem_of_getElem? (i := 512) (by decide +kernel), List.mem_of_getElem? (i := 704) (by decide +kernel), List.mem_of_getElem? (i := 705) (by decide +kernel)⟩
theorem lw_p34 : lw_okq (⟨"MutableCellsModel", "rows", "(IIIII)V"⟩, 34) := ⟨⟨by decide +kernel, by decide +kernel⟩, List.mem_of_getElem? (i := 512) (by decide +kernel), List.mem_of_getElem? (i := 708) (by decide +kernel), List.mem_of_getElem? (i := 709) (by decide +kernel)⟩
theorem lw_p35 : lw_okq (⟨"MutableCellsModel", "checkItem", "(II)V"⟩, 34) := ⟨⟨by decide +kernel, by decide +kernel⟩, List.mem_of_getElem? (i := 512) (by decide +kernel), List.mem_of_getElem? (i := 712) (by decide +kernel), List.mem_of_getElem? (i := 713) (by decide +kernel)⟩
theorem lw_p36 : lw_okq (⟨"MutableCellsModel", "fail", "(I)V"⟩, 34) := ⟨⟨by decide +kernel, by decide +kernel⟩, List.mem_of_getElem? (i := 512) (by decide +kernel), List.mem_of_getElem? (i := 716) (by decide +kernel), List.mem_of_getElem? (i := 717) (by decide +kernel)⟩
def lw_privs_3 : List (MethodName × Nat) := [(⟨"MutableCellsModel", "clearAtom", "(I)V"⟩, 34), (⟨"MutableCellsModel", "endAtom", "(I)I"⟩, 34), (⟨"MutableCellsModel", "rows", "(IIIII)V"⟩, 34), (⟨"MutableCellsModel", "checkItem", "(II)V"⟩, 34), (⟨"MutableCellsModel", "fail", "(I)V"⟩, 34)]
theorem lw_r3 : ∀ q ∈ lw_privs_3, lw_okq q := List.forall_mem_cons.mpr ⟨lw_p32, List.forall_mem_cons.mpr ⟨lw_p33, List.forall_mem_cons.mpr ⟨lw_p34, List.forall_mem_cons.mpr ⟨lw_p35, List.forall_mem_cons.mpr ⟨lw_p36, fun _ h => absurd h List.not_mem_nil⟩⟩⟩⟩⟩
def lw_privs : List (MethodName × Nat) := lw_privs_1 ++ (lw_privs_2 ++ (lw_privs_3))
def lw_tbl : List Cond := k2_sels lw_privs ++ tables_1
theorem lw_privs_ok : ∀ q ∈ lw_privs, lw_okq q := by
  show ∀ q ∈ lw_privs_1 ++ (lw_privs_2 ++ (lw_privs_3)), lw_okq q
  exact List.forall_mem_append.mpr ⟨lw_r1, List.forall_mem_append.mpr ⟨lw_r2, lw_r3⟩⟩
-- ===== end of PART A; then your names; then what follows =====
/-! ===== BEGIN words of one list among another's, by their places ===== -/
theorem goodIn_r {big : List Cond} (ws : List Cond) (ps : List Nat) (hp : ws = ps.filterMap (fun i => big[i]?)) (h : ws.all goodWord = true) : GoodIn big ws := by
  intro w hw
  have h1 := List.all_eq_true.mp h w hw
  rw [hp] at hw
  obtain ⟨i, -, hi⟩ := List.mem_filterMap.mp hw
  have hm : w ∈ big := by first | exact List.mem_of_getElem? hi | exact List.getElem?_mem hi
  exact ⟨hm, good_of_word h1⟩
theorem goodIn_app {big a b : List Cond} (ha : GoodIn big a) (hb : GoodIn big b) : GoodIn big (a ++ b) := fun w h => (List.mem_append.mp h).elim (ha w) (hb w)
theorem goodIn_ca {big a b : List Cond} {c : Cond} (ha : GoodIn big (c :: a)) (hb : GoodIn big b) : GoodIn big (c :: (a ++ b)) := fun w h => (List.mem_cons.mp h).elim (fun e => ha w (List.mem_cons.mpr (Or.inl e))) (fun h => (List.mem_append.mp h).elim (fun h => ha w (List.mem_cons.mpr (Or.inr h))) (hb w))
theorem goodIn_sub {big ws : List Cond} (hm : ∀ w ∈ ws, w ∈ big) (h : ws.all goodWord = true) : GoodIn big ws := fun w hw => ⟨hm w hw, good_of_word (List.all_eq_true.mp h w hw)⟩
/-! ===== END ===== -/

/-! ===== BEGIN printed: names, fields, word lists, decode rows ===== -/
def RX0 : String := "MutableCells$Atom"
def TX0 : u_T := fun k => match k with
  | 0 => ("MutableCells$Atom", "open", "Z", false)
  | 1 => ("MutableCells$Atom", "behindBegin", "I", false)
  | 2 => ("MutableCells$Atom", "trysAhead", "I", false)
  | 3 => ("MutableCells$Atom", "registers", "[I", true)
  | 4 => ("MutableCells$Atom", "putMarks", "[Z", true)
  | 5 => ("MutableCells$Atom", "putNumbers", "[I", true)
  | 6 => ("MutableCells$Atom", "readMarks", "[Z", true)
  | _ => ("MutableCells$Atom", "firstNumbers", "[I", true)
def tyX0 : Nat → FieldType := fun k => match k with
  | 0 => .boolean
  | 1 => .int
  | 2 => .int
  | 3 => .array .int
  | 4 => .array .boolean
  | 5 => .array .int
  | 6 => .array .boolean
  | _ => .array .int
abbrev wsX00 : List Cond := u_ws RX0 TX0 8
theorem nmX0 : ∀ a, a < 8 → ∀ b, b < 8 → a ≠ b → (TX0 a).2.1 ≠ (TX0 b).2.1 := by decide +kernel
theorem tyX0_ok : ∀ k, k < 8 → parseFieldDescriptor (TX0 k).2.2.1 = some (tyX0 k) := by decide +kernel
abbrev cX0_init : ByteArray := prog_2_method_1_code
def yX0_init : MethodName := ⟨RX0, "<init>", "()V"⟩
abbrev cX0_forget : ByteArray := prog_2_method_2_code
def yX0_forget : MethodName := ⟨RX0, "forget", "()V"⟩
abbrev cX0_hasPut : ByteArray := prog_2_method_3_code
def yX0_hasPut : MethodName := ⟨RX0, "hasPut", "(I)Z"⟩
abbrev cX0_putNumber : ByteArray := prog_2_method_4_code
def yX0_putNumber : MethodName := ⟨RX0, "putNumbe\x72", "(I)I"⟩
abbrev cX0_notePut : ByteArray := prog_2_method_5_code
def yX0_notePut : MethodName := ⟨RX0, "notePut", "(II)V"⟩
abbrev cX0_hasRead : ByteArray := prog_2_method_6_code
def yX0_hasRead : MethodName := ⟨RX0, "hasRead", "(I)Z"⟩
abbrev cX0_firstNumber : ByteArray := prog_2_method_7_code
def yX0_firstNumber : MethodName := ⟨RX0, "firstNumbe\x72", "(I)I"⟩
abbrev cX0_noteReading : ByteArray := prog_2_method_8_code
def yX0_noteReading : MethodName := ⟨RX0, "noteReading", "(II)V"⟩
def RX1 : String := "MutableCells$Cells"
def TX1 : u_T := fun k => match k with
  | 0 => ("MutableCells$Cells", "numbers", "[I", true)
  | 1 => ("MutableCells$Cells", "partners", "[I", true)
  | 2 => ("MutableCells$Cells", "trail", "[I", true)
  | _ => ("MutableCells$Cells", "log", "LMutableCells$Log;", true)
def tyX1 : Nat → FieldType := fun k => match k with
  | 0 => .array .int
  | 1 => .array .int
  | 2 => .array .int
  | _ => .object "MutableCells$Log"
abbrev wsX10 : List Cond := u_ws RX1 TX1 4
theorem nmX1 : ∀ a, a < 4 → ∀ b, b < 4 → a ≠ b → (TX1 a).2.1 ≠ (TX1 b).2.1 := by decide +kernel
theorem tyX1_ok : ∀ k, k < 4 → parseFieldDescriptor (TX1 k).2.2.1 = some (tyX1 k) := by decide +kernel
abbrev cX1_init : ByteArray := prog_3_method_1_code
def yX1_init : MethodName := ⟨RX1, "<init>", "()V"⟩
abbrev cX1_reset : ByteArray := prog_3_method_2_code
def yX1_reset : MethodName := ⟨RX1, "reset", "()V"⟩
abbrev cX1_isLazy : ByteArray := prog_3_method_3_code
def yX1_isLazy : MethodName := ⟨RX1, "isLazy", "(I)Z"⟩
abbrev cX1_shown : ByteArray := prog_3_method_4_code
def yX1_shown : MethodName := ⟨RX1, "shown", "(I)I"⟩
abbrev cX1_hold : ByteArray := prog_3_method_5_code
def yX1_hold : MethodName := ⟨RX1, "hold", "(II)V"⟩
abbrev cX1_defer : ByteArray := prog_3_method_6_code
def yX1_defer : MethodName := ⟨RX1, "defe\x72", "(II)V"⟩
abbrev cX1_count : ByteArray := prog_3_method_7_code
def yX1_count : MethodName := ⟨RX1, "count", "(III)V"⟩
abbrev cX1_leadsToRing : ByteArray := prog_3_method_8_code
def yX1_leadsToRing : MethodName := ⟨RX1, "leadsToRing", "(I)Z"⟩
abbrev cX1_workedOut : ByteArray := prog_3_method_9_code
def yX1_workedOut : MethodName := ⟨RX1, "workedOut", "(II)I"⟩
def RX2 : String := "MutableCells$Log"
def TX2 : u_T := fun k => match k with
  | 0 => ("MutableCells$Log", "threads", "[I", true)
  | 1 => ("MutableCells$Log", "places", "[I", true)
  | 2 => ("MutableCells$Log", "numbers", "[I", true)
  | 3 => ("MutableCells$Log", "latest", "I", false)
  | _ => ("MutableCells$Log", "count", "I", false)
def tyX2 : Nat → FieldType := fun k => match k with
  | 0 => .array .int
  | 1 => .array .int
  | 2 => .array .int
  | 3 => .int
  | _ => .int
abbrev wsX20 : List Cond := u_ws RX2 TX2 5
theorem nmX2 : ∀ a, a < 5 → ∀ b, b < 5 → a ≠ b → (TX2 a).2.1 ≠ (TX2 b).2.1 := by decide +kernel
theorem tyX2_ok : ∀ k, k < 5 → parseFieldDescriptor (TX2 k).2.2.1 = some (tyX2 k) := by decide +kernel
abbrev cX2_init : ByteArray := prog_4_method_1_code
def yX2_init : MethodName := ⟨RX2, "<init>", "()V"⟩
abbrev cX2_add : ByteArray := prog_4_method_2_code
def yX2_add : MethodName := ⟨RX2, "add", "(III)V"⟩
abbrev cX2_tell : ByteArray := prog_4_method_3_code
def yX2_tell : MethodName := ⟨RX2, "tell", "(II)I"⟩
def RX3 : String := "MutableCells$Rows"
def TX3 : u_T := fun k => match k with
  | 0 => ("MutableCells$Rows", "lengths", "[I", true)
  | 1 => ("MutableCells$Rows", "ices", "[Z", true)
  | _ => ("MutableCells$Rows", "items", "[I", true)
def tyX3 : Nat → FieldType := fun k => match k with
  | 0 => .array .int
  | 1 => .array .boolean
  | _ => .array .int
abbrev wsX30 : List Cond := u_ws RX3 TX3 3
theorem nmX3 : ∀ a, a < 3 → ∀ b, b < 3 → a ≠ b → (TX3 a).2.1 ≠ (TX3 b).2.1 := by decide +kernel
theorem tyX3_ok : ∀ k, k < 3 → parseFieldDescriptor (TX3 k).2.2.1 = some (tyX3 k) := by decide +kernel
abbrev cX3_init : ByteArray := prog_5_method_1_code
def yX3_init : MethodName := ⟨RX3, "<init>", "()V"⟩
abbrev cX3_reset : ByteArray := prog_5_method_2_code
def yX3_reset : MethodName := ⟨RX3, "reset", "()V"⟩
abbrev cX3_length : ByteArray := prog_5_method_3_code
def yX3_length : MethodName := ⟨RX3, "length", "(I)I"⟩
abbrev cX3_isFrozen : ByteArray := prog_5_method_4_code
def yX3_isFrozen : MethodName := ⟨RX3, "isFrozen", "(I)Z"⟩
abbrev cX3_hasItem : ByteArray := prog_5_method_5_code
def yX3_hasItem : MethodName := ⟨RX3, "hasItem", "(II)Z"⟩
abbrev cX3_itemOf : ByteArray := prog_5_method_6_code
def yX3_itemOf : MethodName := ⟨RX3, "itemOf", "(II)I"⟩
abbrev cX3_failureAt : ByteArray := prog_5_method_7_code
def yX3_failureAt : MethodName := ⟨RX3, "failureAt", "(II)I"⟩
abbrev cX3_store : ByteArray := prog_5_method_8_code
def yX3_store : MethodName := ⟨RX3, "store", "(III)I"⟩
abbrev cX3_make : ByteArray := prog_5_method_9_code
def yX3_make : MethodName := ⟨RX3, "make", "(II)I"⟩
abbrev cX3_freeze : ByteArray := prog_5_method_10_code
def yX3_freeze : MethodName := ⟨RX3, "freeze", "(I)I"⟩
def RX4 : String := "MutableCells$Strand"
def TX4 : u_T := fun k => match k with
  | 0 => ("MutableCells$Strand", "numbe\x72", "I", true)
  | 1 => ("MutableCells$Strand", "kinds", "[I", true)
  | 2 => ("MutableCells$Strand", "xs", "[I", true)
  | 3 => ("MutableCells$Strand", "ys", "[I", true)
  | 4 => ("MutableCells$Strand", "zs", "[I", true)
  | 5 => ("MutableCells$Strand", "acts", "I", false)
  | 6 => ("MutableCells$Strand", "registers", "[I", true)
  | 7 => ("MutableCells$Strand", "tryPlaces", "[I", true)
  | 8 => ("MutableCells$Strand", "trys", "I", false)
  | 9 => ("MutableCells$Strand", "atom", "LMutableCells$Atom;", true)
  | 10 => ("MutableCells$Strand", "place", "I", false)
  | 11 => ("MutableCells$Strand", "next", "I", false)
  | 12 => ("MutableCells$Strand", "failure", "I", false)
  | 13 => ("MutableCells$Strand", "turns", "I", false)
  | _ => ("MutableCells$Strand", "anews", "I", false)
def tyX4 : Nat → FieldType := fun k => match k with
  | 0 => .int
  | 1 => .array .int
  | 2 => .array .int
  | 3 => .array .int
  | 4 => .array .int
  | 5 => .int
  | 6 => .array .int
  | 7 => .array .int
  | 8 => .int
  | 9 => .object "MutableCells$Atom"
  | 10 => .int
  | 11 => .int
  | 12 => .int
  | 13 => .int
  | _ => .int
abbrev wsX40 : List Cond := u_ws RX4 TX4 15
theorem nmX4 : ∀ a, a < 15 → ∀ b, b < 15 → a ≠ b → (TX4 a).2.1 ≠ (TX4 b).2.1 := by decide +kernel
theorem tyX4_ok : ∀ k, k < 15 → parseFieldDescriptor (TX4 k).2.2.1 = some (tyX4 k) := by decide +kernel
abbrev cX4_init : ByteArray := prog_6_method_1_code
def yX4_init : MethodName := ⟨RX4, "<init>", "(I)V"⟩
abbrev cX4_reset : ByteArray := prog_6_method_2_code
def yX4_reset : MethodName := ⟨RX4, "reset", "(Z)V"⟩
abbrev cX4_append : ByteArray := prog_6_method_3_code
def yX4_append : MethodName := ⟨RX4, "append", "(IIII)Z"⟩
abbrev cX4_state : ByteArray := prog_6_method_4_code
def yX4_state : MethodName := ⟨RX4, "state", "()I"⟩
abbrev cX4_held : ByteArray := prog_6_method_5_code
def yX4_held : MethodName := ⟨RX4, "held", "(I)I"⟩
abbrev cX4_keep : ByteArray := prog_6_method_6_code
def yX4_keep : MethodName := ⟨RX4, "keep", "(II)V"⟩
abbrev cX4_performAlone : ByteArray := prog_6_method_7_code
def yX4_performAlone : MethodName := ⟨RX4, "performAlone", "(IIII)I"⟩
abbrev cX4_divide : ByteArray := prog_6_method_8_code
def yX4_divide : MethodName := ⟨RX4, "divide", "(III)I"⟩
abbrev cX4_openTry : ByteArray := prog_6_method_9_code
def yX4_openTry : MethodName := ⟨RX4, "openTry", "(I)I"⟩
abbrev cX4_closeTry : ByteArray := prog_6_method_10_code
def yX4_closeTry : MethodName := ⟨RX4, "closeTry", "()I"⟩
abbrev cX4_beginAtom : ByteArray := prog_6_method_11_code
def yX4_beginAtom : MethodName := ⟨RX4, "beginAtom", "()I"⟩
abbrev cX4_beginAnew : ByteArray := prog_6_method_12_code
def yX4_beginAnew : MethodName := ⟨RX4, "beginAnew", "()V"⟩
abbrev cX4_fail : ByteArray := prog_6_method_13_code
def yX4_fail : MethodName := ⟨RX4, "fail", "(I)V"⟩
def RX5 : String := "MutableCells"
def TX5 : u_T := fun k => match k with
  | 0 => ("MutableCells", "cells", "LMutableCells$Cells;", true)
  | 1 => ("MutableCells", "rows", "LMutableCells$Rows;", true)
  | 2 => ("MutableCells", "strands", "[LMutableCells$Strand;", true)
  | 3 => ("MutableCells", "turnsDone", "I", false)
  | _ => ("MutableCells", "failures", "I", false)
def tyX5 : Nat → FieldType := fun k => match k with
  | 0 => .object "MutableCells$Cells"
  | 1 => .object "MutableCells$Rows"
  | 2 => .array (.object "MutableCells$Strand")
  | 3 => .int
  | _ => .int
abbrev wsX50 : List Cond := u_ws RX5 TX5 5
theorem nmX5 : ∀ a, a < 5 → ∀ b, b < 5 → a ≠ b → (TX5 a).2.1 ≠ (TX5 b).2.1 := by decide +kernel
theorem tyX5_ok : ∀ k, k < 5 → parseFieldDescriptor (TX5 k).2.2.1 = some (tyX5 k) := by decide +kernel
abbrev cX5_init : ByteArray := prog_1_method_1_code
def yX5_init : MethodName := ⟨RX5, "<init>", "()V"⟩
abbrev cX5_act : ByteArray := prog_1_method_2_code
def yX5_act : MethodName := ⟨RX5, "act", "(IIIII)I"⟩
abbrev cX5_turn : ByteArray := prog_1_method_3_code
def yX5_turn : MethodName := ⟨RX5, "turn", "(I)I"⟩
abbrev cX5_play : ByteArray := prog_1_method_4_code
def yX5_play : MethodName := ⟨RX5, "play", "(II)I"⟩
abbrev cX5_told : ByteArray := prog_1_method_5_code
def yX5_told : MethodName := ⟨RX5, "told", "(II)I"⟩
abbrev cX5_register : ByteArray := prog_1_method_6_code
def yX5_register : MethodName := ⟨RX5, "registe\x72", "(II)I"⟩
abbrev cX5_cell : ByteArray := prog_1_method_7_code
def yX5_cell : MethodName := ⟨RX5, "cell", "(I)I"⟩
abbrev cX5_lazy : ByteArray := prog_1_method_8_code
def yX5_lazy : MethodName := ⟨RX5, "lazy", "(I)I"⟩
abbrev cX5_size : ByteArray := prog_1_method_9_code
def yX5_size : MethodName := ⟨RX5, "size", "(I)I"⟩
abbrev cX5_item : ByteArray := prog_1_method_10_code
def yX5_item : MethodName := ⟨RX5, "item", "(II)I"⟩
abbrev cX5_frozen : ByteArray := prog_1_method_11_code
def yX5_frozen : MethodName := ⟨RX5, "frozen", "(I)I"⟩
abbrev cX5_put : ByteArray := prog_1_method_12_code
def yX5_put : MethodName := ⟨RX5, "put", "(II)I"⟩
abbrev cX5_writes : ByteArray := prog_1_method_13_code
def yX5_writes : MethodName := ⟨RX5, "writes", "()I"⟩
abbrev cX5_write : ByteArray := prog_1_method_14_code
def yX5_write : MethodName := ⟨RX5, "write", "(II)I"⟩
abbrev cX5_again : ByteArray := prog_1_method_15_code
def yX5_again : MethodName := ⟨RX5, "again", "()I"⟩
abbrev cX5_clear : ByteArray := prog_1_method_16_code
def yX5_clear : MethodName := ⟨RX5, "clea\x72", "()I"⟩
abbrev cX5_restart : ByteArray := prog_1_method_17_code
def yX5_restart : MethodName := ⟨RX5, "restart", "(Z)I"⟩
abbrev cX5_strandOf : ByteArray := prog_1_method_18_code
def yX5_strandOf : MethodName := ⟨RX5, "strandOf", "(I)LMutableCells$Strand;"⟩
abbrev cX5_isRegister : ByteArray := prog_1_method_19_code
def yX5_isRegister : MethodName := ⟨RX5, "isRegiste\x72", "(I)Z"⟩
abbrev cX5_isCell : ByteArray := prog_1_method_20_code
def yX5_isCell : MethodName := ⟨RX5, "isCell", "(I)Z"⟩
abbrev cX5_isRow : ByteArray := prog_1_method_21_code
def yX5_isRow : MethodName := ⟨RX5, "isRow", "(I)Z"⟩
abbrev cX5_isPlace : ByteArray := prog_1_method_22_code
def yX5_isPlace : MethodName := ⟨RX5, "isPlace", "(I)Z"⟩
abbrev cX5_mayBe : ByteArray := prog_1_method_23_code
def yX5_mayBe : MethodName := ⟨RX5, "mayBe", "(IIII)Z"⟩
abbrev cX5_drawn : ByteArray := prog_1_method_24_code
def yX5_drawn : MethodName := ⟨RX5, "drawn", "(I)LMutableCells$Strand;"⟩
abbrev cX5_goes : ByteArray := prog_1_method_25_code
def yX5_goes : MethodName := ⟨RX5, "goes", "(I)Z"⟩
abbrev cX5_takeTurn : ByteArray := prog_1_method_26_code
def yX5_takeTurn : MethodName := ⟨RX5, "takeTurn", "(LMutableCells$Strand;)V"⟩
abbrev cX5_perform : ByteArray := prog_1_method_27_code
def yX5_perform : MethodName := ⟨RX5, "perform", "(LMutableCells$Strand;)I"⟩
abbrev cX5_isBarredFromAtoms : ByteArray := prog_1_method_28_code
def yX5_isBarredFromAtoms : MethodName := ⟨RX5, "isBarredFromAtoms", "(I)Z"⟩
abbrev cX5_loadItem : ByteArray := prog_1_method_29_code
def yX5_loadItem : MethodName := ⟨RX5, "loadItem", "(LMutableCells$Strand;III)I"⟩
abbrev cX5_getCell : ByteArray := prog_1_method_30_code
def yX5_getCell : MethodName := ⟨RX5, "getCell", "(LMutableCells$Strand;II)I"⟩
abbrev cX5_swapCell : ByteArray := prog_1_method_31_code
def yX5_swapCell : MethodName := ⟨RX5, "swapCell", "(LMutableCells$Strand;III)I"⟩
abbrev cX5_failureOfReading : ByteArray := prog_1_method_32_code
def yX5_failureOfReading : MethodName := ⟨RX5, "failureOfReading", "(LMutableCells$Strand;I)I"⟩
abbrev cX5_readCell : ByteArray := prog_1_method_33_code
def yX5_readCell : MethodName := ⟨RX5, "readCell", "(LMutableCells$Strand;I)I"⟩
abbrev cX5_putCell : ByteArray := prog_1_method_34_code
def yX5_putCell : MethodName := ⟨RX5, "putCell", "(LMutableCells$Strand;II)V"⟩
abbrev cX5_endAtom : ByteArray := prog_1_method_35_code
def yX5_endAtom : MethodName := ⟨RX5, "endAtom", "(LMutableCells$Strand;)I"⟩
abbrev cX5_isOvertaken : ByteArray := prog_1_method_36_code
def yX5_isOvertaken : MethodName := ⟨RX5, "isOvertaken", "(LMutableCells$Atom;)Z"⟩
def RX6 : String := "MutableCellsModel"
def TX6 : u_T := fun k => match k with
  | 0 => ("MutableCellsModel", "failures", "I", false)
  | 1 => ("MutableCellsModel", "cells", "[I", true)
  | 2 => ("MutableCellsModel", "isLazy", "[Z", true)
  | 3 => ("MutableCellsModel", "isRead", "[Z", true)
  | 4 => ("MutableCellsModel", "sizes", "[I", true)
  | 5 => ("MutableCellsModel", "items", "[I", true)
  | 6 => ("MutableCellsModel", "isFrozen", "[Z", true)
  | 7 => ("MutableCellsModel", "many", "[I", true)
  | 8 => ("MutableCellsModel", "kind", "[I", true)
  | 9 => ("MutableCellsModel", "actX", "[I", true)
  | 10 => ("MutableCellsModel", "actY", "[I", true)
  | 11 => ("MutableCellsModel", "actZ", "[I", true)
  | 12 => ("MutableCellsModel", "registers", "[I", true)
  | 13 => ("MutableCellsModel", "place", "[I", true)
  | 14 => ("MutableCellsModel", "failedBy", "[I", true)
  | 15 => ("MutableCellsModel", "hasFailed", "[Z", true)
  | 16 => ("MutableCellsModel", "turns", "[I", true)
  | 17 => ("MutableCellsModel", "anew", "[I", true)
  | 18 => ("MutableCellsModel", "tries", "[I", true)
  | 19 => ("MutableCellsModel", "tryPlace", "[I", true)
  | 20 => ("MutableCellsModel", "isAtom", "[Z", true)
  | 21 => ("MutableCellsModel", "atomTries", "[I", true)
  | 22 => ("MutableCellsModel", "atomPlace", "[I", true)
  | 23 => ("MutableCellsModel", "atomRegisters", "[I", true)
  | 24 => ("MutableCellsModel", "wasRead", "[Z", true)
  | 25 => ("MutableCellsModel", "firstRead", "[I", true)
  | 26 => ("MutableCellsModel", "wasPut", "[Z", true)
  | 27 => ("MutableCellsModel", "putThere", "[I", true)
  | 28 => ("MutableCellsModel", "writes", "I", false)
  | 29 => ("MutableCellsModel", "writeThread", "[I", true)
  | 30 => ("MutableCellsModel", "writeCell", "[I", true)
  | 31 => ("MutableCellsModel", "writeNumbe\x72", "[I", true)
  | 32 => ("MutableCellsModel", "failure", "I", false)
  | _ => ("MutableCellsModel", "chain", "[I", true)
def tyX6 : Nat → FieldType := fun k => match k with
  | 0 => .int
  | 1 => .array .int
  | 2 => .array .boolean
  | 3 => .array .boolean
  | 4 => .array .int
  | 5 => .array .int
  | 6 => .array .boolean
  | 7 => .array .int
  | 8 => .array .int
  | 9 => .array .int
  | 10 => .array .int
  | 11 => .array .int
  | 12 => .array .int
  | 13 => .array .int
  | 14 => .array .int
  | 15 => .array .boolean
  | 16 => .array .int
  | 17 => .array .int
  | 18 => .array .int
  | 19 => .array .int
  | 20 => .array .boolean
  | 21 => .array .int
  | 22 => .array .int
  | 23 => .array .int
  | 24 => .array .boolean
  | 25 => .array .int
  | 26 => .array .boolean
  | 27 => .array .int
  | 28 => .int
  | 29 => .array .int
  | 30 => .array .int
  | 31 => .array .int
  | 32 => .int
  | _ => .array .int
abbrev wsX60 : List Cond := u_ws RX6 TX6 34
theorem nmX6 : ∀ a, a < 34 → ∀ b, b < 34 → a ≠ b → (TX6 a).2.1 ≠ (TX6 b).2.1 := by decide +kernel
theorem tyX6_ok : ∀ k, k < 34 → parseFieldDescriptor (TX6 k).2.2.1 = some (tyX6 k) := by decide +kernel
abbrev cX6_init : ByteArray := prog_8_method_1_code
def yX6_init : MethodName := ⟨RX6, "<init>", "()V"⟩
abbrev cX6_within : ByteArray := prog_8_method_3_code
def yX6_within : MethodName := ⟨RX6, "within", "(III)Z"⟩
abbrev cX6_begin : ByteArray := prog_8_method_4_code
def yX6_begin : MethodName := ⟨RX6, "begin", "()V"⟩
abbrev cX6_isRegister : ByteArray := prog_8_method_5_code
def yX6_isRegister : MethodName := ⟨RX6, "isRegiste\x72", "(I)Z"⟩
abbrev cX6_isCell : ByteArray := prog_8_method_6_code
def yX6_isCell : MethodName := ⟨RX6, "isCell", "(I)Z"⟩
abbrev cX6_isPlaceIn : ByteArray := prog_8_method_7_code
def yX6_isPlaceIn : MethodName := ⟨RX6, "isPlaceIn", "(I)Z"⟩
abbrev cX6_fits : ByteArray := prog_8_method_8_code
def yX6_fits : MethodName := ⟨RX6, "fits", "(IIII)Z"⟩
abbrev cX6_act : ByteArray := prog_8_method_9_code
def yX6_act : MethodName := ⟨RX6, "act", "(IIIII)I"⟩
abbrev cX6_stateOf : ByteArray := prog_8_method_10_code
def yX6_stateOf : MethodName := ⟨RX6, "stateOf", "(I)I"⟩
abbrev cX6_note : ByteArray := prog_8_method_11_code
def yX6_note : MethodName := ⟨RX6, "note", "(III)V"⟩
abbrev cX6_write : ByteArray := prog_8_method_12_code
def yX6_write : MethodName := ⟨RX6, "write", "(III)V"⟩
abbrev cX6_readPlain : ByteArray := prog_8_method_13_code
def yX6_readPlain : MethodName := ⟨RX6, "readPlain", "(II)I"⟩
abbrev cX6_read : ByteArray := prog_8_method_14_code
def yX6_read : MethodName := ⟨RX6, "read", "(II)I"⟩
abbrev cX6_lay : ByteArray := prog_8_method_15_code
def yX6_lay : MethodName := ⟨RX6, "lay", "(III)V"⟩
abbrev cX6_clearAtom : ByteArray := prog_8_method_16_code
def yX6_clearAtom : MethodName := ⟨RX6, "clearAtom", "(I)V"⟩
abbrev cX6_beginAtom : ByteArray := prog_8_method_17_code
def yX6_beginAtom : MethodName := ⟨RX6, "beginAtom", "(I)V"⟩
abbrev cX6_endAtom : ByteArray := prog_8_method_18_code
def yX6_endAtom : MethodName := ⟨RX6, "endAtom", "(I)I"⟩
abbrev cX6_r : ByteArray := prog_8_method_19_code
def yX6_r : MethodName := ⟨RX6, "\x72", "(II)I"⟩
abbrev cX6_give : ByteArray := prog_8_method_20_code
def yX6_give : MethodName := ⟨RX6, "give", "(III)V"⟩
abbrev cX6_checkItem : ByteArray := prog_8_method_21_code
def yX6_checkItem : MethodName := ⟨RX6, "checkItem", "(II)V"⟩
abbrev cX6_compute : ByteArray := prog_8_method_22_code
def yX6_compute : MethodName := ⟨RX6, "compute", "(IIIII)V"⟩
abbrev cX6_swap : ByteArray := prog_8_method_23_code
def yX6_swap : MethodName := ⟨RX6, "swap", "(IIII)V"⟩
abbrev cX6_rows : ByteArray := prog_8_method_24_code
def yX6_rows : MethodName := ⟨RX6, "rows", "(IIIII)V"⟩
abbrev cX6_doAct : ByteArray := prog_8_method_25_code
def yX6_doAct : MethodName := ⟨RX6, "doAct", "(I)I"⟩
abbrev cX6_fail : ByteArray := prog_8_method_26_code
def yX6_fail : MethodName := ⟨RX6, "fail", "(I)V"⟩
abbrev cX6_doTurn : ByteArray := prog_8_method_27_code
def yX6_doTurn : MethodName := ⟨RX6, "doTurn", "(I)V"⟩
abbrev cX6_turn : ByteArray := prog_8_method_28_code
def yX6_turn : MethodName := ⟨RX6, "turn", "(I)I"⟩
abbrev cX6_play : ByteArray := prog_8_method_29_code
def yX6_play : MethodName := ⟨RX6, "play", "(II)I"⟩
abbrev cX6_told : ByteArray := prog_8_method_30_code
def yX6_told : MethodName := ⟨RX6, "told", "(II)I"⟩
abbrev cX6_register : ByteArray := prog_8_method_31_code
def yX6_register : MethodName := ⟨RX6, "registe\x72", "(II)I"⟩
abbrev cX6_cell : ByteArray := prog_8_method_32_code
def yX6_cell : MethodName := ⟨RX6, "cell", "(I)I"⟩
abbrev cX6_lazy : ByteArray := prog_8_method_33_code
def yX6_lazy : MethodName := ⟨RX6, "lazy", "(I)I"⟩
abbrev cX6_size : ByteArray := prog_8_method_34_code
def yX6_size : MethodName := ⟨RX6, "size", "(I)I"⟩
abbrev cX6_item : ByteArray := prog_8_method_35_code
def yX6_item : MethodName := ⟨RX6, "item", "(II)I"⟩
abbrev cX6_frozen : ByteArray := prog_8_method_36_code
def yX6_frozen : MethodName := ⟨RX6, "frozen", "(I)I"⟩
abbrev cX6_put : ByteArray := prog_8_method_37_code
def yX6_put : MethodName := ⟨RX6, "put", "(II)I"⟩
abbrev cX6_writes : ByteArray := prog_8_method_38_code
def yX6_writes : MethodName := ⟨RX6, "writes", "()I"⟩
abbrev cX6_write_ : ByteArray := prog_8_method_39_code
def yX6_write_ : MethodName := ⟨RX6, "write", "(II)I"⟩
abbrev cX6_again : ByteArray := prog_8_method_40_code
def yX6_again : MethodName := ⟨RX6, "again", "()I"⟩
abbrev cX6_clear : ByteArray := prog_8_method_41_code
def yX6_clear : MethodName := ⟨RX6, "clea\x72", "()I"⟩
def RJ10 : String := "java/lang/System"
def TJ10 : u_T := fun k => match k with
  | _ => ("", "", "", false)
def tyJ10 : Nat → FieldType := fun k => match k with
  | _ => .int
abbrev wsJ100 : List Cond := u_ws RJ10 TJ10 0
theorem nmJ10 : ∀ a, a < 0 → ∀ b, b < 0 → a ≠ b → (TJ10 a).2.1 ≠ (TJ10 b).2.1 := by decide +kernel
theorem tyJ10_ok : ∀ k, k < 0 → parseFieldDescriptor (TJ10 k).2.2.1 = some (tyJ10 k) := by decide +kernel
def RJ7 : String := "java/util/Arrays"
def TJ7 : u_T := fun k => match k with
  | _ => ("", "", "", false)
def tyJ7 : Nat → FieldType := fun k => match k with
  | _ => .int
abbrev wsJ70 : List Cond := u_ws RJ7 TJ7 0
theorem nmJ7 : ∀ a, a < 0 → ∀ b, b < 0 → a ≠ b → (TJ7 a).2.1 ≠ (TJ7 b).2.1 := by decide +kernel
theorem tyJ7_ok : ∀ k, k < 0 → parseFieldDescriptor (TJ7 k).2.2.1 = some (tyJ7 k) := by decide +kernel
abbrev cJ7_rangeCheck_23922 : ByteArray := prog_10_method_30_code
def yJ7_rangeCheck_23922 : MethodName := ⟨RJ7, "rangeCheck", "(III)V"⟩
abbrev cJ7_fill_53178 : ByteArray := prog_10_method_103_code
def yJ7_fill_53178 : MethodName := ⟨RJ7, "fill", "([II)V"⟩
abbrev cJ7_fill_fda19 : ByteArray := prog_10_method_104_code
def yJ7_fill_fda19 : MethodName := ⟨RJ7, "fill", "([IIII)V"⟩
def RL : String := "MutableCellsLaw"
abbrev cL_law : ByteArray := code
def yL_law : MethodName := ⟨RL, "law", "([I)Z"⟩
def wsL_law_r1 : List Cond := [Cond.classLink RL 7 RX5, Cond.instantiable RX5 5, Cond.initialized RX5, Cond.classLink RL 10 RX6, Cond.instantiable RX6 34, Cond.initialized RX6, Cond.methodLink RL 9 yX5_init, Cond.instanceMethod yX5_init, Cond.code yX5_init cX5_init 2 none, Cond.methodLink RX5 1 objectInit, Cond.instanceMethod objectInit, Cond.code objectInit ⟨#[0xb1]⟩ 1 none, Cond.classLink RX5 7 RX1, Cond.instantiable RX1 4, Cond.initialized RX1, Cond.fieldLink RX5 10 "MutableCells" "cells" "LMutableCells$Cells;", Cond.classLink RX5 16 RX3, Cond.instantiable RX3 3, Cond.initialized RX3, Cond.fieldLink RX5 19 "MutableCells" "rows" "LMutableCells$Rows;", Cond.classLink RX5 23 RX4, Cond.fieldLink RX5 25 "MutableCells" "strands" "[LMutableCells$Strand;", Cond.instantiable RX4 15, Cond.initialized RX4]
def wsL_law_r2 : List Cond := [Cond.methodLink RX5 9 yX1_init, Cond.instanceMethod yX1_init, Cond.code yX1_init cX1_init 1 none, Cond.methodLink RX1 3 objectInit, Cond.arrayClass .int, Cond.fieldLink RX1 9 "MutableCells$Cells" "numbers" "[I", Cond.fieldLink RX1 15 "MutableCells$Cells" "partners" "[I", Cond.fieldLink RX1 18 "MutableCells$Cells" "trail" "[I", Cond.classLink RX1 21 RX2, Cond.instantiable RX2 5, Cond.initialized RX2, Cond.fieldLink RX1 24 "MutableCells$Cells" "log" "LMutableCells$Log;", Cond.instanceMethod yX2_init, Cond.code yX2_init cX2_init 1 none, Cond.methodLink RX2 3 objectInit, Cond.fieldLink RX2 9 "MutableCells$Log" "threads" "[I", Cond.fieldLink RX2 15 "MutableCells$Log" "places" "[I", Cond.fieldLink RX2 18 "MutableCells$Log" "numbers" "[I", Cond.methodLink RX1 28 yX1_reset, Cond.instanceMethod yX1_reset, Cond.selects RX1 yX1_reset yX1_reset, Cond.code yX1_reset cX1_reset 1 none, Cond.methodLink RX1 31 yJ7_fill_53178, Cond.static yJ7_fill_53178]
def wsL_law_r3 : List Cond := [Cond.initialized RJ7, Cond.code yJ7_fill_53178 cJ7_fill_53178 4 none, Cond.methodLink RX5 18 yX3_init, Cond.instanceMethod yX3_init, Cond.code yX3_init cX3_init 1 none, Cond.methodLink RX3 3 objectInit, Cond.fieldLink RX3 9 "MutableCells$Rows" "lengths" "[I", Cond.arrayClass .boolean, Cond.fieldLink RX3 15 "MutableCells$Rows" "ices" "[Z", Cond.fieldLink RX3 19 "MutableCells$Rows" "items" "[I", Cond.methodLink RX3 22 yX3_reset, Cond.instanceMethod yX3_reset, Cond.selects RX3 yX3_reset yX3_reset, Cond.code yX3_reset cX3_reset 2 none, Cond.methodLink RX5 29 yX4_init, Cond.instanceMethod yX4_init, Cond.code yX4_init cX4_init 2 none, Cond.methodLink RX4 3 objectInit, Cond.fieldLink RX4 9 "MutableCells$Strand" "kinds" "[I", Cond.fieldLink RX4 15 "MutableCells$Strand" "xs" "[I", Cond.fieldLink RX4 18 "MutableCells$Strand" "ys" "[I", Cond.fieldLink RX4 21 "MutableCells$Strand" "zs" "[I", Cond.fieldLink RX4 24 "MutableCells$Strand" "registers" "[I", Cond.fieldLink RX4 27 "MutableCells$Strand" "tryPlaces" "[I"]
def wsL_law_r4 : List Cond := [Cond.classLink RX4 30 RX0, Cond.instantiable RX0 8, Cond.initialized RX0, Cond.fieldLink RX4 33 "MutableCells$Strand" "atom" "LMutableCells$Atom;", Cond.fieldLink RX4 37 "MutableCells$Strand" "numbe\x72" "I", Cond.instanceMethod yX0_init, Cond.code yX0_init cX0_init 1 none, Cond.methodLink RX0 3 objectInit, Cond.fieldLink RX0 9 "MutableCells$Atom" "registers" "[I", Cond.fieldLink RX0 15 "MutableCells$Atom" "putMarks" "[Z", Cond.fieldLink RX0 19 "MutableCells$Atom" "putNumbers" "[I", Cond.fieldLink RX0 22 "MutableCells$Atom" "readMarks" "[Z", Cond.fieldLink RX0 25 "MutableCells$Atom" "firstNumbers" "[I", Cond.methodLink RL 12 yX6_init, Cond.instanceMethod yX6_init, Cond.code yX6_init cX6_init 1 none, Cond.methodLink RX6 1 objectInit, Cond.fieldLink RX6 7 "MutableCellsModel" "cells" "[I", Cond.fieldLink RX6 13 "MutableCellsModel" "isLazy" "[Z", Cond.fieldLink RX6 17 "MutableCellsModel" "isRead" "[Z", Cond.fieldLink RX6 20 "MutableCellsModel" "sizes" "[I", Cond.fieldLink RX6 23 "MutableCellsModel" "items" "[I", Cond.fieldLink RX6 26 "MutableCellsModel" "isFrozen" "[Z", Cond.fieldLink RX6 29 "MutableCellsModel" "many" "[I"]
def wsL_law_r5 : List Cond := [Cond.fieldLink RX6 32 "MutableCellsModel" "kind" "[I", Cond.fieldLink RX6 35 "MutableCellsModel" "actX" "[I", Cond.fieldLink RX6 38 "MutableCellsModel" "actY" "[I", Cond.fieldLink RX6 41 "MutableCellsModel" "actZ" "[I", Cond.fieldLink RX6 44 "MutableCellsModel" "registers" "[I", Cond.fieldLink RX6 47 "MutableCellsModel" "place" "[I", Cond.fieldLink RX6 50 "MutableCellsModel" "failedBy" "[I", Cond.fieldLink RX6 53 "MutableCellsModel" "hasFailed" "[Z", Cond.fieldLink RX6 56 "MutableCellsModel" "turns" "[I", Cond.fieldLink RX6 59 "MutableCellsModel" "anew" "[I", Cond.fieldLink RX6 62 "MutableCellsModel" "tries" "[I", Cond.fieldLink RX6 65 "MutableCellsModel" "tryPlace" "[I", Cond.fieldLink RX6 68 "MutableCellsModel" "isAtom" "[Z", Cond.fieldLink RX6 71 "MutableCellsModel" "atomTries" "[I", Cond.fieldLink RX6 74 "MutableCellsModel" "atomPlace" "[I", Cond.fieldLink RX6 77 "MutableCellsModel" "atomRegisters" "[I", Cond.fieldLink RX6 80 "MutableCellsModel" "wasRead" "[Z", Cond.fieldLink RX6 83 "MutableCellsModel" "firstRead" "[I", Cond.fieldLink RX6 86 "MutableCellsModel" "wasPut" "[Z", Cond.fieldLink RX6 89 "MutableCellsModel" "putThere" "[I", Cond.fieldLink RX6 92 "MutableCellsModel" "writeThread" "[I", Cond.fieldLink RX6 95 "MutableCellsModel" "writeCell" "[I", Cond.fieldLink RX6 98 "MutableCellsModel" "writeNumbe\x72" "[I", Cond.fieldLink RX6 101 "MutableCellsModel" "chain" "[I"]
def wsL_law_r6 : List Cond := [Cond.methodLink RX6 104 yX6_begin, Cond.instanceMethod yX6_begin, Cond.selects RX6 yX6_begin yX6_begin, Cond.code yX6_begin cX6_begin 3 none, Cond.fieldLink RX6 107 "MutableCellsModel" "writes" "I", Cond.methodLink RL 13 yX5_act, Cond.instanceMethod yX5_act, Cond.selects RX5 yX5_act yX5_act, Cond.code yX5_act cX5_act 7 (some .int), Cond.methodLink RX5 32 yX5_strandOf, Cond.instanceMethod yX5_strandOf, Cond.selects RX5 yX5_strandOf yX5_strandOf, Cond.code yX5_strandOf cX5_strandOf 2 (some (.object "MutableCells$Strand")), Cond.methodLink RX5 36 yX5_mayBe, Cond.static yX5_mayBe, Cond.code yX5_mayBe cX5_mayBe 4 (some .boolean), Cond.methodLink RX5 87 yX5_isRegister, Cond.static yX5_isRegister, Cond.code yX5_isRegister cX5_isRegister 1 (some .boolean), Cond.methodLink RX5 95 yX5_isCell, Cond.static yX5_isCell, Cond.code yX5_isCell cX5_isCell 1 (some .boolean), Cond.methodLink RX5 104 yX5_isRow, Cond.static yX5_isRow]
def wsL_law_r7 : List Cond := [Cond.code yX5_isRow cX5_isRow 1 (some .boolean), Cond.methodLink RX5 147 yX5_isPlace, Cond.static yX5_isPlace, Cond.code yX5_isPlace cX5_isPlace 1 (some .boolean), Cond.methodLink RX5 44 yX4_append, Cond.instanceMethod yX4_append, Cond.selects RX4 yX4_append yX4_append, Cond.code yX4_append cX4_append 5 (some .boolean), Cond.fieldLink RX4 41 "MutableCells$Strand" "acts" "I", Cond.methodLink RL 17 yX6_act, Cond.instanceMethod yX6_act, Cond.selects RX6 yX6_act yX6_act, Cond.code yX6_act cX6_act 7 (some .int), Cond.methodLink RX6 111 yX6_within, Cond.static yX6_within, Cond.code yX6_within cX6_within 3 (some .boolean), Cond.methodLink RX6 125 yX6_fits, Cond.static yX6_fits, Cond.code yX6_fits cX6_fits 4 (some .boolean), Cond.methodLink RX6 115 yX6_isRegister, Cond.static yX6_isRegister, Cond.code yX6_isRegister cX6_isRegister 1 (some .boolean), Cond.methodLink RX6 119 yX6_isCell, Cond.static yX6_isCell]
def wsL_law_r8 : List Cond := [Cond.code yX6_isCell cX6_isCell 1 (some .boolean), Cond.methodLink RX6 122 yX6_isPlaceIn, Cond.static yX6_isPlaceIn, Cond.code yX6_isPlaceIn cX6_isPlaceIn 1 (some .boolean), Cond.methodLink RL 18 yX5_turn, Cond.instanceMethod yX5_turn, Cond.selects RX5 yX5_turn yX5_turn, Cond.code yX5_turn cX5_turn 3 (some .int), Cond.fieldLink RX5 54 "MutableCells" "failures" "I", Cond.methodLink RX5 50 yX4_state, Cond.instanceMethod yX4_state, Cond.selects RX4 yX4_state yX4_state, Cond.code yX4_state cX4_state 1 (some .int), Cond.fieldLink RX4 60 "MutableCells$Strand" "failure" "I", Cond.fieldLink RX4 57 "MutableCells$Strand" "place" "I", Cond.fieldLink RX4 50 "MutableCells$Strand" "trys" "I", Cond.methodLink RX5 57 yX5_takeTurn, Cond.instanceMethod yX5_takeTurn, Cond.selects RX5 yX5_takeTurn yX5_takeTurn, Cond.code yX5_takeTurn cX5_takeTurn 3 none, Cond.fieldLink RX5 137 "MutableCells" "turnsDone" "I", Cond.methodLink RX5 156 yX5_perform, Cond.instanceMethod yX5_perform, Cond.selects RX5 yX5_perform yX5_perform]
def wsL_law_r9 : List Cond := [Cond.code yX5_perform cX5_perform 7 (some .int), Cond.methodLink RX5 176 yX5_isBarredFromAtoms, Cond.static yX5_isBarredFromAtoms, Cond.code yX5_isBarredFromAtoms cX5_isBarredFromAtoms 1 (some .boolean), Cond.methodLink RX5 179 yX5_getCell, Cond.instanceMethod yX5_getCell, Cond.selects RX5 yX5_getCell yX5_getCell, Cond.code yX5_getCell cX5_getCell 5 (some .int), Cond.methodLink RX5 220 yX5_failureOfReading, Cond.instanceMethod yX5_failureOfReading, Cond.selects RX5 yX5_failureOfReading yX5_failureOfReading, Cond.code yX5_failureOfReading cX5_failureOfReading 3 (some .int), Cond.methodLink RX5 101 yX1_isLazy, Cond.instanceMethod yX1_isLazy, Cond.selects RX1 yX1_isLazy yX1_isLazy, Cond.code yX1_isLazy cX1_isLazy 2 (some .boolean), Cond.methodLink RX5 227 yX0_hasPut, Cond.instanceMethod yX0_hasPut, Cond.selects RX0 yX0_hasPut yX0_hasPut, Cond.code yX0_hasPut cX0_hasPut 2 (some .boolean), Cond.methodLink RX5 230 yX1_leadsToRing, Cond.instanceMethod yX1_leadsToRing, Cond.selects RX1 yX1_leadsToRing yX1_leadsToRing, Cond.code yX1_leadsToRing cX1_leadsToRing 4 (some .boolean)]
def wsL_law_r10 : List Cond := [Cond.methodLink RX1 53 yX1_isLazy, Cond.methodLink RX1 56 yX1_shown, Cond.instanceMethod yX1_shown, Cond.selects RX1 yX1_shown yX1_shown, Cond.code yX1_shown cX1_shown 2 (some .int), Cond.methodLink RX5 224 yX5_readCell, Cond.instanceMethod yX5_readCell, Cond.selects RX5 yX5_readCell yX5_readCell, Cond.code yX5_readCell cX5_readCell 4 (some .int), Cond.methodLink RX5 236 yX1_workedOut, Cond.instanceMethod yX1_workedOut, Cond.selects RX1 yX1_workedOut yX1_workedOut, Cond.code yX1_workedOut cX1_workedOut 7 (some .int), Cond.methodLink RX1 60 yX1_count, Cond.instanceMethod yX1_count, Cond.selects RX1 yX1_count yX1_count, Cond.code yX1_count cX1_count 4 none, Cond.methodLink RX1 45 yX1_hold, Cond.instanceMethod yX1_hold, Cond.selects RX1 yX1_hold yX1_hold, Cond.code yX1_hold cX1_hold 3 none, Cond.methodLink RX1 49 yX2_add, Cond.instanceMethod yX2_add, Cond.selects RX2 yX2_add yX2_add]
def wsL_law_r11 : List Cond := [Cond.code yX2_add cX2_add 4 none, Cond.fieldLink RX2 21 "MutableCells$Log" "latest" "I", Cond.fieldLink RX2 25 "MutableCells$Log" "count" "I", Cond.methodLink RX5 239 yX0_putNumber, Cond.instanceMethod yX0_putNumber, Cond.selects RX0 yX0_putNumber yX0_putNumber, Cond.code yX0_putNumber cX0_putNumber 2 (some .int), Cond.methodLink RX5 98 yX1_shown, Cond.methodLink RX5 242 yX0_noteReading, Cond.instanceMethod yX0_noteReading, Cond.selects RX0 yX0_noteReading yX0_noteReading, Cond.code yX0_noteReading cX0_noteReading 3 none, Cond.methodLink RX5 217 yX4_keep, Cond.instanceMethod yX4_keep, Cond.selects RX4 yX4_keep yX4_keep, Cond.code yX4_keep cX4_keep 3 none, Cond.methodLink RX5 91 yX4_held, Cond.instanceMethod yX4_held, Cond.selects RX4 yX4_held yX4_held, Cond.code yX4_held cX4_held 2 (some .int), Cond.methodLink RX5 183 yX5_putCell, Cond.instanceMethod yX5_putCell, Cond.selects RX5 yX5_putCell yX5_putCell, Cond.code yX5_putCell cX5_putCell 4 none]
def wsL_law_r12 : List Cond := [Cond.methodLink RX5 245 yX0_notePut, Cond.instanceMethod yX0_notePut, Cond.selects RX0 yX0_notePut yX0_notePut, Cond.code yX0_notePut cX0_notePut 3 none, Cond.methodLink RX5 248 yX1_count, Cond.methodLink RX5 187 yX5_loadItem, Cond.instanceMethod yX5_loadItem, Cond.selects RX5 yX5_loadItem yX5_loadItem, Cond.code yX5_loadItem cX5_loadItem 6 (some .int), Cond.methodLink RX5 214 yX3_failureAt, Cond.instanceMethod yX3_failureAt, Cond.selects RX3 yX3_failureAt yX3_failureAt, Cond.code yX3_failureAt cX3_failureAt 3 (some .int), Cond.methodLink RX3 33 yX3_length, Cond.instanceMethod yX3_length, Cond.selects RX3 yX3_length yX3_length, Cond.code yX3_length cX3_length 2 (some .int), Cond.methodLink RX3 29 yX3_hasItem, Cond.instanceMethod yX3_hasItem, Cond.selects RX3 yX3_hasItem yX3_hasItem, Cond.code yX3_hasItem cX3_hasItem 3 (some .boolean), Cond.methodLink RX5 110 yX3_itemOf, Cond.instanceMethod yX3_itemOf, Cond.selects RX3 yX3_itemOf yX3_itemOf]
def wsL_law_r13 : List Cond := [Cond.code yX3_itemOf cX3_itemOf 3 (some .int), Cond.methodLink RX5 191 yX3_store, Cond.instanceMethod yX3_store, Cond.selects RX3 yX3_store yX3_store, Cond.code yX3_store cX3_store 5 (some .int), Cond.methodLink RX3 37 yX3_failureAt, Cond.methodLink RX3 41 yX3_isFrozen, Cond.instanceMethod yX3_isFrozen, Cond.selects RX3 yX3_isFrozen yX3_isFrozen, Cond.code yX3_isFrozen cX3_isFrozen 2 (some .boolean), Cond.methodLink RX5 195 yX5_swapCell, Cond.instanceMethod yX5_swapCell, Cond.selects RX5 yX5_swapCell yX5_swapCell, Cond.code yX5_swapCell cX5_swapCell 7 (some .int), Cond.methodLink RX5 198 yX5_endAtom, Cond.instanceMethod yX5_endAtom, Cond.selects RX5 yX5_endAtom yX5_endAtom, Cond.code yX5_endAtom cX5_endAtom 4 (some .int), Cond.methodLink RX5 254 yX5_isOvertaken, Cond.instanceMethod yX5_isOvertaken, Cond.selects RX5 yX5_isOvertaken yX5_isOvertaken, Cond.code yX5_isOvertaken cX5_isOvertaken 3 (some .boolean), Cond.methodLink RX5 261 yX0_hasRead, Cond.instanceMethod yX0_hasRead]
def wsL_law_r14 : List Cond := [Cond.selects RX0 yX0_hasRead yX0_hasRead, Cond.code yX0_hasRead cX0_hasRead 2 (some .boolean), Cond.methodLink RX5 264 yX0_firstNumber, Cond.instanceMethod yX0_firstNumber, Cond.selects RX0 yX0_firstNumber yX0_firstNumber, Cond.code yX0_firstNumber cX0_firstNumber 2 (some .int), Cond.methodLink RX5 258 yX4_beginAnew, Cond.instanceMethod yX4_beginAnew, Cond.selects RX4 yX4_beginAnew yX4_beginAnew, Cond.code yX4_beginAnew cX4_beginAnew 1 none, Cond.fieldLink RX4 66 "MutableCells$Strand" "anews" "I", Cond.fieldLink RX4 85 "MutableCells$Strand" "next" "I", Cond.methodLink RX4 105 arraycopyName, Cond.native arraycopyName, Cond.static arraycopyName, Cond.initialized "java/lang/System", Cond.methodLink RX4 111 yX0_forget, Cond.instanceMethod yX0_forget, Cond.selects RX0 yX0_forget yX0_forget, Cond.code yX0_forget cX0_forget 2 none, Cond.methodLink RX5 201 yX3_make, Cond.instanceMethod yX3_make, Cond.selects RX3 yX3_make yX3_make, Cond.code yX3_make cX3_make 3 (some .int)]
def wsL_law_r15 : List Cond := [Cond.methodLink RX3 44 yJ7_fill_fda19, Cond.static yJ7_fill_fda19, Cond.code yJ7_fill_fda19 cJ7_fill_fda19 5 none, Cond.methodLink RJ7 13 yJ7_rangeCheck_23922, Cond.static yJ7_rangeCheck_23922, Cond.code yJ7_rangeCheck_23922 cJ7_rangeCheck_23922 3 none, Cond.methodLink RX5 204 yX3_freeze, Cond.instanceMethod yX3_freeze, Cond.selects RX3 yX3_freeze yX3_freeze, Cond.code yX3_freeze cX3_freeze 2 (some .int), Cond.methodLink RX5 207 yX1_defer, Cond.instanceMethod yX1_defer, Cond.selects RX1 yX1_defer yX1_defer, Cond.code yX1_defer cX1_defer 3 none, Cond.methodLink RX5 210 yX4_performAlone, Cond.instanceMethod yX4_performAlone, Cond.selects RX4 yX4_performAlone yX4_performAlone, Cond.code yX4_performAlone cX4_performAlone 5 (some .int), Cond.methodLink RX4 73 yX4_keep, Cond.methodLink RX4 77 yX4_held, Cond.methodLink RX4 81 yX4_divide, Cond.instanceMethod yX4_divide, Cond.selects RX4 yX4_divide yX4_divide, Cond.code yX4_divide cX4_divide 4 (some .int)]
def wsL_law_r16 : List Cond := [Cond.methodLink RX4 88 yX4_beginAtom, Cond.instanceMethod yX4_beginAtom, Cond.selects RX4 yX4_beginAtom yX4_beginAtom, Cond.code yX4_beginAtom cX4_beginAtom 1 (some .int), Cond.methodLink RX4 92 yX4_openTry, Cond.instanceMethod yX4_openTry, Cond.selects RX4 yX4_openTry yX4_openTry, Cond.code yX4_openTry cX4_openTry 2 (some .int), Cond.methodLink RX4 95 yX4_closeTry, Cond.instanceMethod yX4_closeTry, Cond.selects RX4 yX4_closeTry yX4_closeTry, Cond.code yX4_closeTry cX4_closeTry 1 (some .int), Cond.methodLink RX5 160 yX4_fail, Cond.instanceMethod yX4_fail, Cond.selects RX4 yX4_fail yX4_fail, Cond.code yX4_fail cX4_fail 2 none, Cond.methodLink RL 22 yX6_turn, Cond.instanceMethod yX6_turn, Cond.selects RX6 yX6_turn yX6_turn, Cond.code yX6_turn cX6_turn 2 (some .int), Cond.fieldLink RX6 181 "MutableCellsModel" "failures" "I", Cond.methodLink RX6 190 yX6_stateOf, Cond.instanceMethod yX6_stateOf, Cond.selects RX6 yX6_stateOf yX6_stateOf]
def wsL_law_r17 : List Cond := [Cond.code yX6_stateOf cX6_stateOf 2 (some .int), Cond.methodLink RX6 193 yX6_doTurn, Cond.instanceMethod yX6_doTurn, Cond.selects RX6 yX6_doTurn yX6_doTurn, Cond.code yX6_doTurn cX6_doTurn 3 none, Cond.fieldLink RX6 133 "MutableCellsModel" "failure" "I", Cond.methodLink RX6 184 yX6_doAct, Cond.instanceMethod yX6_doAct, Cond.selects RX6 yX6_doAct yX6_doAct, Cond.code yX6_doAct cX6_doAct 9 (some .int), Cond.methodLink RX6 147 yX6_give, Cond.instanceMethod yX6_give, Cond.selects RX6 yX6_give yX6_give, Cond.code yX6_give cX6_give 4 none, Cond.methodLink RX6 150 yX6_read, Cond.instanceMethod yX6_read, Cond.selects RX6 yX6_read yX6_read, Cond.code yX6_read cX6_read 4 (some .int), Cond.methodLink RX6 139 yX6_readPlain, Cond.instanceMethod yX6_readPlain, Cond.selects RX6 yX6_readPlain yX6_readPlain, Cond.code yX6_readPlain cX6_readPlain 8 (some .int), Cond.methodLink RX6 136 yX6_write, Cond.instanceMethod yX6_write]
def wsL_law_r18 : List Cond := [Cond.selects RX6 yX6_write yX6_write, Cond.code yX6_write cX6_write 4 none, Cond.methodLink RX6 129 yX6_note, Cond.instanceMethod yX6_note, Cond.selects RX6 yX6_note yX6_note, Cond.code yX6_note cX6_note 4 none, Cond.methodLink RX6 153 yX6_r, Cond.instanceMethod yX6_r, Cond.selects RX6 yX6_r yX6_r, Cond.code yX6_r cX6_r 3 (some .int), Cond.methodLink RX6 156 yX6_lay, Cond.instanceMethod yX6_lay, Cond.selects RX6 yX6_lay yX6_lay, Cond.code yX6_lay cX6_lay 4 none, Cond.methodLink RX6 163 yX6_compute, Cond.instanceMethod yX6_compute, Cond.selects RX6 yX6_compute yX6_compute, Cond.code yX6_compute cX6_compute 6 none, Cond.methodLink RX6 167 yX6_swap, Cond.instanceMethod yX6_swap, Cond.selects RX6 yX6_swap yX6_swap, Cond.code yX6_swap cX6_swap 7 none, Cond.methodLink RX6 171 yX6_beginAtom, Cond.instanceMethod yX6_beginAtom]
def wsL_law_r19 : List Cond := [Cond.selects RX6 yX6_beginAtom yX6_beginAtom, Cond.code yX6_beginAtom cX6_beginAtom 3 none, Cond.methodLink RX6 143 yX6_clearAtom, Cond.instanceMethod yX6_clearAtom, Cond.selects RX6 yX6_clearAtom yX6_clearAtom, Cond.code yX6_clearAtom cX6_clearAtom 3 none, Cond.methodLink RX6 174 yX6_endAtom, Cond.instanceMethod yX6_endAtom, Cond.selects RX6 yX6_endAtom yX6_endAtom, Cond.code yX6_endAtom cX6_endAtom 5 (some .int), Cond.methodLink RX6 178 yX6_rows, Cond.instanceMethod yX6_rows, Cond.selects RX6 yX6_rows yX6_rows, Cond.code yX6_rows cX6_rows 8 none, Cond.methodLink RX6 159 yX6_checkItem, Cond.instanceMethod yX6_checkItem, Cond.selects RX6 yX6_checkItem yX6_checkItem, Cond.code yX6_checkItem cX6_checkItem 3 none, Cond.methodLink RX6 187 yX6_fail, Cond.instanceMethod yX6_fail, Cond.selects RX6 yX6_fail yX6_fail, Cond.code yX6_fail cX6_fail 2 none, Cond.methodLink RL 23 yX5_play, Cond.instanceMethod yX5_play]
def wsL_law_r20 : List Cond := [Cond.selects RX5 yX5_play yX5_play, Cond.code yX5_play cX5_play 6 (some .int), Cond.constant RX5 61 (1103515245), Cond.methodLink RX5 62 yX5_drawn, Cond.instanceMethod yX5_drawn, Cond.selects RX5 yX5_drawn yX5_drawn, Cond.code yX5_drawn cX5_drawn 5 (some (.object "MutableCells$Strand")), Cond.methodLink RX5 150 yX5_goes, Cond.instanceMethod yX5_goes, Cond.selects RX5 yX5_goes yX5_goes, Cond.code yX5_goes cX5_goes 3 (some .boolean), Cond.methodLink RL 27 yX6_play, Cond.instanceMethod yX6_play, Cond.selects RX6 yX6_play yX6_play, Cond.code yX6_play cX6_play 9 (some .int), Cond.constant RX6 196 (1103515245), Cond.methodLink RL 28 yX5_told, Cond.instanceMethod yX5_told, Cond.selects RX5 yX5_told yX5_told, Cond.code yX5_told cX5_told 4 (some .int), Cond.methodLink RL 31 yX6_told, Cond.instanceMethod yX6_told, Cond.selects RX6 yX6_told yX6_told, Cond.code yX6_told cX6_told 3 (some .int)]
def wsL_law_r21 : List Cond := [Cond.methodLink RL 32 yX5_register, Cond.instanceMethod yX5_register, Cond.selects RX5 yX5_register yX5_register, Cond.code yX5_register cX5_register 4 (some .int), Cond.methodLink RL 35 yX6_register, Cond.instanceMethod yX6_register, Cond.selects RX6 yX6_register yX6_register, Cond.code yX6_register cX6_register 3 (some .int), Cond.methodLink RL 36 yX5_cell, Cond.instanceMethod yX5_cell, Cond.selects RX5 yX5_cell yX5_cell, Cond.code yX5_cell cX5_cell 2 (some .int), Cond.methodLink RL 39 yX6_cell, Cond.instanceMethod yX6_cell, Cond.selects RX6 yX6_cell yX6_cell, Cond.code yX6_cell cX6_cell 2 (some .int), Cond.methodLink RL 40 yX5_lazy, Cond.instanceMethod yX5_lazy, Cond.selects RX5 yX5_lazy yX5_lazy, Cond.code yX5_lazy cX5_lazy 2 (some .int), Cond.methodLink RL 43 yX6_lazy, Cond.instanceMethod yX6_lazy, Cond.selects RX6 yX6_lazy yX6_lazy, Cond.code yX6_lazy cX6_lazy 2 (some .int)]
def wsL_law_r22 : List Cond := [Cond.methodLink RL 44 yX5_size, Cond.instanceMethod yX5_size, Cond.selects RX5 yX5_size yX5_size, Cond.code yX5_size cX5_size 2 (some .int), Cond.methodLink RX5 107 yX3_length, Cond.methodLink RL 47 yX6_size, Cond.instanceMethod yX6_size, Cond.selects RX6 yX6_size yX6_size, Cond.code yX6_size cX6_size 2 (some .int), Cond.methodLink RL 48 yX5_item, Cond.instanceMethod yX5_item, Cond.selects RX5 yX5_item yX5_item, Cond.code yX5_item cX5_item 3 (some .int), Cond.methodLink RL 51 yX6_item, Cond.instanceMethod yX6_item, Cond.selects RX6 yX6_item yX6_item, Cond.code yX6_item cX6_item 3 (some .int), Cond.methodLink RL 52 yX5_frozen, Cond.instanceMethod yX5_frozen, Cond.selects RX5 yX5_frozen yX5_frozen, Cond.code yX5_frozen cX5_frozen 2 (some .int), Cond.methodLink RX5 114 yX3_isFrozen, Cond.methodLink RL 55 yX6_frozen, Cond.instanceMethod yX6_frozen]
def wsL_law_r23 : List Cond := [Cond.selects RX6 yX6_frozen yX6_frozen, Cond.code yX6_frozen cX6_frozen 2 (some .int), Cond.methodLink RL 56 yX5_put, Cond.instanceMethod yX5_put, Cond.selects RX5 yX5_put yX5_put, Cond.code yX5_put cX5_put 4 (some .int), Cond.methodLink RX5 117 yX1_hold, Cond.methodLink RL 59 yX6_put, Cond.instanceMethod yX6_put, Cond.selects RX6 yX6_put yX6_put, Cond.code yX6_put cX6_put 4 (some .int), Cond.methodLink RL 60 yX5_writes, Cond.instanceMethod yX5_writes, Cond.selects RX5 yX5_writes yX5_writes, Cond.code yX5_writes cX5_writes 1 (some .int), Cond.methodLink RL 64 yX6_writes, Cond.instanceMethod yX6_writes, Cond.selects RX6 yX6_writes yX6_writes, Cond.code yX6_writes cX6_writes 1 (some .int), Cond.methodLink RL 65 yX5_write, Cond.instanceMethod yX5_write, Cond.selects RX5 yX5_write yX5_write, Cond.code yX5_write cX5_write 3 (some .int), Cond.methodLink RX5 130 yX2_tell]
def wsL_law_r24 : List Cond := [Cond.instanceMethod yX2_tell, Cond.selects RX2 yX2_tell yX2_tell, Cond.code yX2_tell cX2_tell 4 (some .int), Cond.methodLink RL 68 yX6_write_, Cond.instanceMethod yX6_write_, Cond.selects RX6 yX6_write_ yX6_write_, Cond.code yX6_write_ cX6_write_ 5 (some .int), Cond.methodLink RL 69 yX5_again, Cond.instanceMethod yX5_again, Cond.selects RX5 yX5_again yX5_again, Cond.code yX5_again cX5_again 1 (some .int), Cond.methodLink RX5 133 yX5_restart, Cond.instanceMethod yX5_restart, Cond.selects RX5 yX5_restart yX5_restart, Cond.code yX5_restart cX5_restart 5 (some .int), Cond.methodLink RX5 140 yX1_reset, Cond.methodLink RX5 143 yX3_reset, Cond.methodLink RX5 144 yX4_reset, Cond.instanceMethod yX4_reset, Cond.selects RX4 yX4_reset yX4_reset, Cond.code yX4_reset cX4_reset 2 none, Cond.fieldLink RX4 63 "MutableCells$Strand" "turns" "I", Cond.methodLink RX4 44 yJ7_fill_53178, Cond.methodLink RL 72 yX6_again]
def wsL_law_r25 : List Cond := [Cond.instanceMethod yX6_again, Cond.selects RX6 yX6_again yX6_again, Cond.code yX6_again cX6_again 2 (some .int), Cond.methodLink RL 73 yX5_clear, Cond.instanceMethod yX5_clear, Cond.selects RX5 yX5_clear yX5_clear, Cond.code yX5_clear cX5_clear 1 (some .int), Cond.methodLink RL 76 yX6_clear, Cond.instanceMethod yX6_clear, Cond.selects RX6 yX6_clear yX6_clear, Cond.code yX6_clear cX6_clear 3 (some .int), Cond.methodLink RX6 197 yX6_again]
def wsL_law : List Cond := (wsL_law_r1 ++ (wsL_law_r2 ++ (wsL_law_r3 ++ (wsL_law_r4 ++ (wsL_law_r5 ++ (wsL_law_r6 ++ (wsL_law_r7 ++ (wsL_law_r8 ++ (wsL_law_r9 ++ (wsL_law_r10 ++ (wsL_law_r11 ++ (wsL_law_r12 ++ (wsL_law_r13 ++ (wsL_law_r14 ++ (wsL_law_r15 ++ (wsL_law_r16 ++ (wsL_law_r17 ++ (wsL_law_r18 ++ (wsL_law_r19 ++ (wsL_law_r20 ++ (wsL_law_r21 ++ (wsL_law_r22 ++ (wsL_law_r23 ++ (wsL_law_r24 ++ wsL_law_r25)))))))))))))))))))))))) ++ wsX50 ++ wsX60 ++ wsX10 ++ wsX30 ++ wsX40 ++ wsX20 ++ wsX00 ++ ([] : List Cond)
set_option maxRecDepth 20000 in
theorem wsL_law_in : ∀ w ∈ wsL_law, w ∈ lw_tbl := fun w h => (goodIn_p wsL_law [51, 54, 59, 65, 89, 92, 111, 116, 133, 139, 552, 557, 247, 251, 254, 257, 260, 263, 266, 270, 664, 667, 670, 673, 676, 679, 274, 278, 282, 286, 289, 293, 297, 301, 306, 311, 316, 320, 324, 328, 332, 336, 340, 345, 349, 354, 358, 362, 367, 371, 375, 380, 384, 388, 393, 397, 401, 405, 409, 413, 417, 424, 428, 431, 434, 438, 442, 446, 452, 456, 460, 464, 468, 683, 687, 691, 695, 699, 703, 707, 711, 715, 719, 723, 727, 731, 735, 739, 743, 747, 751, 755, 472, 477, 481, 759, 485, 764, 489, 768, 493, 772, 497, 776, 501, 780, 506, 784, 510, 788, 515, 792, 520, 796, 524, 528, 800, 532, 536, 542, 804, 547, 808] (by decide +kernel) (by decide +kernel) w h).1
theorem inlX0 : ∀ w ∈ wsX00, w ∈ wsL_law := fun _ h => List.mem_append_left _ (List.mem_append_right _ h)
theorem inX0 : ∀ w ∈ wsX00, w ∈ lw_tbl := fun w h => wsL_law_in w (inlX0 w h)
theorem inlX1 : ∀ w ∈ wsX10, w ∈ wsL_law := fun _ h => List.mem_append_left _ (List.mem_append_left _ (List.mem_append_left _ (List.mem_append_left _ (List.mem_append_left _ (List.mem_append_right _ h)))))
theorem inX1 : ∀ w ∈ wsX10, w ∈ lw_tbl := fun w h => wsL_law_in w (inlX1 w h)
theorem inlX2 : ∀ w ∈ wsX20, w ∈ wsL_law := fun _ h => List.mem_append_left _ (List.mem_append_left _ (List.mem_append_right _ h))
theorem inX2 : ∀ w ∈ wsX20, w ∈ lw_tbl := fun w h => wsL_law_in w (inlX2 w h)
theorem inlX3 : ∀ w ∈ wsX30, w ∈ wsL_law := fun _ h => List.mem_append_left _ (List.mem_append_left _ (List.mem_append_left _ (List.mem_append_left _ (List.mem_append_right _ h))))
theorem inX3 : ∀ w ∈ wsX30, w ∈ lw_tbl := fun w h => wsL_law_in w (inlX3 w h)
theorem inlX4 : ∀ w ∈ wsX40, w ∈ wsL_law := fun _ h => List.mem_append_left _ (List.mem_append_left _ (List.mem_append_left _ (List.mem_append_right _ h)))
theorem inX4 : ∀ w ∈ wsX40, w ∈ lw_tbl := fun w h => wsL_law_in w (inlX4 w h)
theorem inlX5 : ∀ w ∈ wsX50, w ∈ wsL_law := fun _ h => List.mem_append_left _ (List.mem_append_left _ (List.mem_append_left _ (List.mem_append_left _ (List.mem_append_left _ (List.mem_append_left _ (List.mem_append_left _ (List.mem_append_right _ h)))))))
theorem inX5 : ∀ w ∈ wsX50, w ∈ lw_tbl := fun w h => wsL_law_in w (inlX5 w h)
theorem inlX6 : ∀ w ∈ wsX60, w ∈ wsL_law := fun _ h => List.mem_append_left _ (List.mem_append_left _ (List.mem_append_left _ (List.mem_append_left _ (List.mem_append_left _ (List.mem_append_left _ (List.mem_append_right _ h))))))
theorem inX6 : ∀ w ∈ wsX60, w ∈ lw_tbl := fun w h => wsL_law_in w (inlX6 w h)
theorem inJ10 : ∀ w ∈ wsJ100, w ∈ lw_tbl := by decide +kernel
theorem inJ7 : ∀ w ∈ wsJ70, w ∈ lw_tbl := by decide +kernel
abbrev vwCl : List vw_C := [(RX0, TX0, 8), (RX1, TX1, 4), (RX2, TX2, 5), (RX3, TX3, 3), (RX4, TX4, 15), (RX5, TX5, 5), (RX6, TX6, 34)]
