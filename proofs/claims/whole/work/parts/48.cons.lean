/-! constructors: a world that grows, cell by cell -/
def rc (d nc ns : Nat) : Room := { frames := d, cells := nc, slots := ns, locals := 40 * d }
def gW (G : gT) (a : Nat → Nat) (L : List Nat) : gT := (G.1, G.2.1, G.2.2.1, a, L)
def gOk (G : gT) : Prop := (gY G)[0]? = some ((gC G).1, .int) ∧ (gY G)[1]? = some ((gC G).2.1, .boolean) ∧ (gY G)[2]? = some ((gC G).2.2, .object "MutableCells$Strand")
def bPre (G : gT) (w0 : va_W) (sz : Nat) (U : State) : Prop := U.heap.size = sz ∧ va_P G.1 vwCl w0 U.heap ∧ va_K G.1 vwCl (gY G) U ∧ va_D (fun _ => True) w0 ∧ mN U ∧ va_AO "MutableCells$Strand" U
def bQ (G : gT) (w0 : va_W) (B : va_W → Prop) (sz : Nat) : Array Value → State → Outcome → State → Prop := va_Qv B (fun w t => va_P G.1 vwCl w t.heap ∧ va_D (va_A w0 sz) w) (va_A w0 sz)
/-- a constructor's contract: from the world w0 to a world of which B holds; mc cells of ms slots are made -/
def Cb (l : Launch) (G : gT) (y : MethodName) (cc : ByteArray) (nL d mc ms : Nat) (avs : List Value) (w0 : va_W) (B : va_W → Prop) : Prop :=
  ∀ sz : Nat, Met l y (Cond.code y cc nL none :: lw_TB) (rc d mc ms) (va_Pc avs (bPre G w0 sz)) (bQ G w0 B sz) mc ms (va_A w0 sz)
def Nc (G : gT) (X : xT) (own : String) (cc : ByteArray) (nL : Nat) : Prop := Vc G X own cc nL none ∧ X.2.2.2.2.2.2.1.name = "<init>" ∧ va_AO "MutableCells$Strand" X.2.2.1
def Nh (G : gT) (X : xT) (nL : Nat) (w0 w : va_W) (lv : List (Nat × Value)) (H : Heap) (locs : List Loc) (ls : Array Slot) : Prop :=
  va_P G.1 vwCl w H ∧ va_D (va_A w0 X.2.2.1.heap.size) w ∧ va_S (va_A w0 X.2.2.1.heap.size) X.2.2.1.heap H locs ∧ lv_has ls nL lv
def Nb (l : Launch) (G : gT) (X : xT) (own : String) (cc : ByteArray) (nL d mc ms : Nat) (w0 : va_W) (B : va_W → Prop) (w : va_W) (pc : Nat) (lv : List (Nat × Value)) (st : List Value) (k n : Nat) : Prop :=
  Nc G X own cc nL → ∀ (H : Heap) (locs : List Loc) (ls : Array Slot), Nh G X nL w0 w lv H locs ls →
    W X.1 l X.2.1 (rc d mc ms) X.2.2.1 X.2.2.2.1 X.2.2.2.2.1 X.2.2.2.2.2.1 X.2.2.2.2.2.2.1 X.2.2.2.2.2.2.2 H locs k n (MQ X.2.2.2.2.2.1 (bQ G w0 B X.2.2.1.heap.size) X.2.2.2.2.1 X.2.2.1 mc ms (va_A w0 X.2.2.1.heap.size)) (F0 X.2.2.2.1 pc ls st)
theorem Cb.ofN {l : Launch} {G : gT} {y : MethodName} {own : String} {cc : ByteArray} {nL d mc ms : Nat} {avs : List Value} {w0 : va_W} {B : va_W → Prop} (lv : List (Nat × Value)) (hown : y.cls = own) (hy : plainName y.cls = true) (hin : y.name = "<init>") (hn : (lg_sl avs).length ≤ nL) (hlv : lv_args 0 avs = lv) (h : ∀ X : xT, Nb l G X own cc nL d mc ms w0 B w0 0 lv [] 0 0) : Cb l G y cc nL d mc ms avs w0 B := by
  intro sz
  subst hown
  refine Met.ofW (cc := cc) (maxL := nL) (ret := none) hy rfl ?_
  intro p e s m args below meth c s₁ Bd hml hv
  obtain ⟨rfl, hsz, hP, hK, hD, hN, hO⟩ := hv
  subst hsz
  have hts := atoms_spec (ws := Cond.code y cc nL none :: lw_TB) Bd.pre
  have hown : s.vm.findClass y.cls = some m.cls := findClass_of_methodNamed Bd.named
  have hname : meth.name = y.name := (name_of_methodNamed Bd.named Bd.method).1
  have hl := lv_entry avs hn
  rw [hlv] at hl
  rw [lg_entry_eq]
  exact h (p, e, s, m, avs.toArray, below, meth, c) ⟨⟨Bd.exec, Bd.bytes, hml, hown, fun w hw => hts w (List.mem_cons_of_mem _ hw), hK, Bd.returns, Bd.notSynchronized, hN⟩, hname.trans hin, hO⟩ s.heap [] _ ⟨hP, hD.self, va_S.rf, hl⟩
theorem callB_g {own : String} {idx nLy n mcy msy : Nat} {R rmy : Room} {y : MethodName} {cy : ByteArray} {rety : Option FieldType} {s : State} {args : Array Value} (h : mW y cy nLy rety n) (ht : ∀ w ∈ lw_TB, w.before args s = true) (hl : Cond.methodLink own idx y ∈ lw_TB) (hc : rmy.cells = mcy) (hs : rmy.slots = msy) (hR : rmy.frames + 1 ≤ R.frames ∧ rmy.locals + 40 ≤ R.locals) : CallB R s args own idx y cy nLy rety (Cond.code y cy nLy rety :: lw_TB) rmy mcy msy n := by
  refine callB_of n ht (good_ws h) rfl hc hs (ht _ h.2.1) (ht _ hl) ⟨h.2.2.1.1, h.2.2.1.2, h.2.2.2.1⟩ ⟨hR.1, ?_⟩
  have h5 := h.2.2.2.2
  omega
theorem nd_range' : ∀ (n a : Nat), va_nd (List.range' a n) = true := by
  intro n
  induction n with
  | zero => intro a; rfl
  | succ n ih =>
    intro a
    rw [List.range'_succ, va_nd, ih (a + 1), Bool.and_true, decide_eq_true_eq]
    intro h
    have := List.mem_range'_1.mp h
    omega
theorem nd_range (n : Nat) : va_nd (List.range n) = true := by rw [List.range_eq_range']; exact nd_range' n 0
theorem range_at (wr w1 : va_W) : (List.range wr.length).map (fun i => (wr ++ w1)[i]?) = wr.map some := by
  apply List.ext_getElem?
  intro i
  rw [List.getElem?_map, List.getElem?_map]
  by_cases h : i < wr.length
  · rw [List.getElem?_range h, List.getElem?_eq_getElem h]
    show some ((wr ++ w1)[i]?) = _
    rw [List.getElem?_append_left h, List.getElem?_eq_getElem h]; rfl
  · rw [List.getElem?_eq_none (by simpa using h), List.getElem?_eq_none (by simpa using h)]; rfl
theorem last_at (wr : va_W) (x : Nat × va_E) : [wr.length].map (fun i => (wr ++ [x])[i]?) = [x].map some := by simp
theorem last_fm (wr : va_W) (x : Nat × va_E) : [wr.length].filterMap (fun i => (wr ++ [x])[i]?) = [x] := by simp
section NR
variable {l : Launch} {G : gT} {X : xT} {own : String} {cc : ByteArray} {nL d mc ms : Nat} {w0 w w' : va_W} {B : va_W → Prop} {pc k n : Nat} {lv : List (Nat × Value)} {st st0 : List Value}
theorem Naload_n {i : Fin 4} {x : Nat} (hd : decode cc pc = .ok (.aload_n i, 1)) (j : Nat) (hj : lv[j]? = some ((i : Nat), .ref x)) (pc' : Nat) (hp : pc' = pc + 1) (kk : Nb l G X own cc nL d mc ms w0 B w pc' lv (.ref x :: st) k n) : Nb l G X own cc nL d mc ms w0 B w pc lv st k n := by
  subst hp
  intro C H locs ls I
  exact lv_aload_n C.1.1 C.1.2.1 hd rfl (lv_at I.2.2.2 j hj) (kk C H locs ls I)
theorem Nload_n {i : Fin 4} {x : Int32} (hd : decode cc pc = .ok (.iload_n i, 1)) (j : Nat) (hj : lv[j]? = some ((i : Nat), .int x)) (pc' : Nat) (hp : pc' = pc + 1) (kk : Nb l G X own cc nL d mc ms w0 B w pc' lv (.int x :: st) k n) : Nb l G X own cc nL d mc ms w0 B w pc lv st k n := by
  subst hp
  intro C H locs ls I
  exact lv_iload_n C.1.1 C.1.2.1 hd rfl (lv_at I.2.2.2 j hj) (kk C H locs ls I)
theorem Nconst {z : Int} (hd : decode cc pc = .ok (.iconst z, 1)) (v : Int32) (hv : Int32.ofInt z = v) (pc' : Nat) (hp : pc' = pc + 1) (kk : Nb l G X own cc nL d mc ms w0 B w pc' lv (.int v :: st) k n) : Nb l G X own cc nL d mc ms w0 B w pc lv st k n := by
  subst hp
  intro C H locs ls I
  exact lv_iconst C.1.1 C.1.2.1 hd hv (kk C H locs ls I)
theorem Nbipush {z : Int} (hd : decode cc pc = .ok (.bipush z, 2)) (v : Int32) (hv : (Int8.ofInt z).toInt32 = v) (pc' : Nat) (hp : pc' = pc + 2) (kk : Nb l G X own cc nL d mc ms w0 B w pc' lv (.int v :: st) k n) : Nb l G X own cc nL d mc ms w0 B w pc lv st k n := by
  subst hp
  intro C H locs ls I
  exact lv_bipush C.1.1 C.1.2.1 hd hv (kk C H locs ls I)
theorem Ndup {v : Nat} (hd : decode cc pc = .ok (.dup, 1)) (pc' : Nat) (hp : pc' = pc + 1) (kk : Nb l G X own cc nL d mc ms w0 B w pc' lv (.ref v :: .ref v :: st) k n) : Nb l G X own cc nL d mc ms w0 B w pc lv (.ref v :: st) k n := by
  subst hp
  intro C H locs ls I
  exact lv_dup C.1.1 C.1.2.1 hd rfl (kk C H locs ls I)
theorem Nstore_n {i : Fin 4} {x : Int32} (hd : decode cc pc = .ok (.istore_n i, 1)) (lv' : List (Nat × Value)) (pc' : Nat) (hp : pc' = pc + 1) (hn : (i : Nat) < nL) (hl : ((i : Nat), .int x) :: lv.filter (fun q => !(q.1 == (i : Nat)) && !(q.1 + 1 == (i : Nat) && q.2.category == 2)) = lv') (kk : Nb l G X own cc nL d mc ms w0 B w pc' lv' st k n) : Nb l G X own cc nL d mc ms w0 B w pc lv (.int x :: st) k n := by
  subst hp
  intro C H locs ls I
  exact lv_istore_n C.1.1 C.1.2.1 hd rfl I.2.2.2 hn hl (fun ls1 h1 => kk C H locs ls1 ⟨I.1, I.2.1, I.2.2.1, h1⟩)
theorem Niinc {i : Nat} {z : Int} {x : Int32} (hd : decode cc pc = .ok (.iinc i z, 3)) (v : Int32) (j : Nat) (lv' : List (Nat × Value)) (pc' : Nat) (hp : pc' = pc + 3) (hk : lv[j]? = some (i, .int x)) (hv : x + Int32.ofInt z = v) (hn : i < nL) (hl : (i, Value.int v) :: lv.filter (fun q => !(q.1 == i) && !(q.1 + 1 == i && q.2.category == 2)) = lv') (kk : Nb l G X own cc nL d mc ms w0 B w pc' lv' st k n) : Nb l G X own cc nL d mc ms w0 B w pc lv st k n := by
  subst hp
  intro C H locs ls I
  exact lv_iinc C.1.1 C.1.2.1 hd I.2.2.2 hk hv hn hl (fun ls1 h1 => kk C H locs ls1 ⟨I.1, I.2.1, I.2.2.1, h1⟩)
theorem Ngoto {off : Int} (hd : decode cc pc = .ok (.goto off, 3)) (tgt : Nat) (ht : (pc : Int) + off = (tgt : Int)) (kk : Nb l G X own cc nL d mc ms w0 B w tgt lv st k n) : Nb l G X own cc nL d mc ms w0 B w pc lv st k n := by
  intro C H locs ls I
  exact lv_goto C.1.1 C.1.2.1 hd ht (kk C H locs ls I)
theorem Nicget {x y : Int32} {off : Int} (hd : decode cc pc = .ok (.if_icmp .ge off, 3)) (tgt : Nat) (ht : (pc : Int) + off = (tgt : Int)) (hc : y ≤ x) (kk : Nb l G X own cc nL d mc ms w0 B w tgt lv st k n) : Nb l G X own cc nL d mc ms w0 B w pc lv (.int y :: .int x :: st) k n := by
  intro C H locs ls I
  exact lv_icmp_ge C.1.1 C.1.2.1 hd ht (fun _ => kk C H locs ls I) (fun h => False.elim (h hc))
theorem Nicgef {x y : Int32} {off : Int} (hd : decode cc pc = .ok (.if_icmp .ge off, 3)) (pc' : Nat) (hc : ¬ y ≤ x) (hp : pc' = pc + 3) (tgt : Nat) (ht : (pc : Int) + off = (tgt : Int)) (kk : Nb l G X own cc nL d mc ms w0 B w pc' lv st k n) : Nb l G X own cc nL d mc ms w0 B w pc lv (.int y :: .int x :: st) k n := by
  subst hp
  intro C H locs ls I
  exact lv_icmp_ge C.1.1 C.1.2.1 hd ht (fun h => False.elim (hc h)) (fun _ => kk C H locs ls I)
theorem NobjInit {idx a : Nat} (hd : decode cc pc = .ok (.invokespecial idx, 3)) (hl : Cond.methodLink own idx objectInit ∈ lw_TB) (hd1 : 1 ≤ d) (pc' : Nat) (hp : pc' = pc + 3) (kk : Nb l G X own cc nL d mc ms w0 B w pc' lv [] k n) : Nb l G X own cc nL d mc ms w0 B w pc lv [.ref a] k n := by
  subst hp
  intro C H locs ls I
  refine W.objInit C.1.1 C.1.2.1 C.1.2.2.2.1 (C.1.2.2.2.2.1 _ hl) (C.1.2.2.2.2.1 _ wd_im_objectInit) (C.1.2.2.2.2.1 _ wd_co_objectInit) rfl (by rw [C.1.2.2.1]; exact I.2.2.2.1) rfl hd hd1 (by show 2 * 0 + 0 + 12 ≤ 40 * d; omega) ?_
  exact W.eq (g2 := F0 X.2.2.2.1 (pc + 3) ls []) rfl (kk C H locs ls I)
theorem Nnewi {z : Int32} {N : Nat} (hd : decode cc pc = .ok (.newarray .int, 2)) (hG : gOk G) (pc' : Nat) (hp : pc' = pc + 2) (hn : ¬ z < 0) (hN : z.toNatClampNeg = N) (hb : N ≤ 1000) (hk : k + 1 ≤ mc) (hs : n + N ≤ ms) (w' : Nat → va_W) (hw : ∀ q, w ++ [(q, .inl ((gC G).1, N, .inl (fun _ => 0)))] = w' q) (kk : ∀ q, Nb l G X own cc nL d mc ms w0 B (w' q) pc' lv (.ref q :: st) (k + 1) (n + N)) : Nb l G X own cc nL d mc ms w0 B w pc lv (.int z :: st) k n := by
  subst hp
  intro C H locs ls I
  refine va_newa (atype := .int) (a0 := (N, .inl (fun _ => 0))) C.1.1 C.1.2.1 (C.1.2.2.2.2.1 _ wd_ac_int) rfl C.1.2.2.2.2.2.1 I.1 I.2.1 I.2.2.1 (fun q h => Or.inr h) (fun _ => rfl) hn hN (by show N * 4 ≤ 536870912; omega) hk hs hd (fun q cA H1 hK1 hP1 hD1 hS1 => ?_)
  have e1 := (hK1.2 (gY G).length (cA, .int) (by simp [newarray.typeOf])).2
  have e2 := (C.1.2.2.2.2.2.1.2 0 _ hG.1).2
  obtain rfl : cA = (gC G).1 := Option.some.inj (Eq.trans (Eq.symm e1) e2)
  rw [hw q] at hP1 hD1
  exact kk q C H1 locs ls ⟨hP1, hD1, hS1, I.2.2.2⟩
theorem Nnewz {z : Int32} {N : Nat} (hd : decode cc pc = .ok (.newarray .boolean, 2)) (hG : gOk G) (pc' : Nat) (hp : pc' = pc + 2) (hn : ¬ z < 0) (hN : z.toNatClampNeg = N) (hb : N ≤ 1000) (hk : k + 1 ≤ mc) (hs : n + N ≤ ms) (w' : Nat → va_W) (hw : ∀ q, w ++ [(q, .inl ((gC G).2.1, N, .inl (fun _ => 0)))] = w' q) (kk : ∀ q, Nb l G X own cc nL d mc ms w0 B (w' q) pc' lv (.ref q :: st) (k + 1) (n + N)) : Nb l G X own cc nL d mc ms w0 B w pc lv (.int z :: st) k n := by
  subst hp
  intro C H locs ls I
  refine va_newa (atype := .boolean) (a0 := (N, .inl (fun _ => 0))) C.1.1 C.1.2.1 (C.1.2.2.2.2.1 _ wd_ac_boolean) rfl C.1.2.2.2.2.2.1 I.1 I.2.1 I.2.2.1 (fun q h => Or.inr h) (fun _ => rfl) hn hN (by show N * 1 ≤ 536870912; omega) hk hs hd (fun q cA H1 hK1 hP1 hD1 hS1 => ?_)
  have e1 := (hK1.2 (gY G).length (cA, .boolean) (by simp [newarray.typeOf])).2
  have e2 := (C.1.2.2.2.2.2.1.2 1 _ hG.2.1).2
  obtain rfl : cA = (gC G).2.1 := Option.some.inj (Eq.trans (Eq.symm e1) e2)
  rw [hw q] at hP1 hD1
  exact kk q C H1 locs ls ⟨hP1, hD1, hS1, I.2.2.2⟩
theorem Nnews {z : Int32} {N idx : Nat} (hd : decode cc pc = .ok (.anewarray idx, 3)) (hl : Cond.classLink own idx "MutableCells$Strand" ∈ lw_TB) (hG : gOk G) (pc' : Nat) (hp : pc' = pc + 3) (hn : ¬ z < 0) (hN : z.toNatClampNeg = N) (hb : N ≤ 1000) (hk : k + 1 ≤ mc) (hs : n + N ≤ ms) (w' : Nat → va_W) (hw : ∀ q, w ++ [(q, .inl ((gC G).2.2, N, .inr (.inr (.inr (.inr (fun _ => none))))))] = w' q) (kk : ∀ q, Nb l G X own cc nL d mc ms w0 B (w' q) pc' lv (.ref q :: st) (k + 1) (n + N)) : Nb l G X own cc nL d mc ms w0 B w pc lv (.int z :: st) k n := by
  subst hp
  intro C H locs ls I
  refine va_newq C.1.1 C.1.2.1 C.1.2.2.2.1 (C.1.2.2.2.2.1 _ hl) C.2.2 C.1.2.2.2.2.2.1 I.1 I.2.1 I.2.2.1 (fun q h => Or.inr h) hn hN (by omega) hk hs hd (fun q cA H1 hK1 hP1 hD1 hS1 => ?_)
  obtain ⟨k1, c1, -, -, -, e1⟩ := (hK1.2 (gY G).length (cA, .object "MutableCells$Strand") (by simp)).2
  obtain ⟨k2, c2, -, -, -, e2⟩ := (C.1.2.2.2.2.2.1.2 2 _ hG.2.2).2
  obtain rfl : cA = (gC G).2.2 := Option.some.inj (Eq.trans (Eq.symm e1) e2)
  rw [hw q] at hP1 hD1
  exact kk q C H1 locs ls ⟨hP1, hD1, hS1, I.2.2.2⟩
theorem Nnew {C0 : String} {T0 : u_T} {N idx : Nat} (ci : Nat) (fs : List Value) (hd : decode cc pc = .ok (.new idx, 3)) (hcl : vwCl[ci]? = some (C0, T0, N)) (hin : ∀ w ∈ u_ws C0 T0 N, w ∈ lw_TB) (ty : Nat → FieldType) (hty : ∀ k, k < N → parseFieldDescriptor (T0 k).2.2.1 = some (ty k)) (hl : Cond.classLink own idx C0 ∈ lw_TB) (hi : Cond.instantiable C0 N ∈ lw_TB) (hini : Cond.initialized C0 ∈ lw_TB) (hfs : ∀ j, j < N → defaultValue (ty j) = vp_V fs j) (pc' : Nat) (hp : pc' = pc + 3) (hk : k + 1 ≤ mc) (hs : n + N ≤ ms) (kk : ∀ q, Nb l G X own cc nL d mc ms w0 B (w ++ [(q, .inr (ci, fs))]) pc' lv (.ref q :: st) (k + 1) (n + N)) : Nb l G X own cc nL d mc ms w0 B w pc lv st k n := by
  subst hp
  intro C H locs ls I
  exact va_new (C := C0) (T := T0) (N := N) C.1.1 C.1.2.1 C.1.2.2.2.2.1 hin ty hty C.1.2.2.2.1 (C.1.2.2.2.2.1 _ hl) (C.1.2.2.2.2.1 _ hi) (C.1.2.2.2.2.1 _ hini) C.1.2.2.2.2.2.1 I.1 I.2.1 I.2.2.1 (fun q h => Or.inr h) hcl hfs hk hs hd (fun q H1 hP1 hD1 hS1 => kk q C H1 locs ls ⟨hP1, hD1, hS1, I.2.2.2⟩)
theorem NputF {C0 : String} {T0 : u_T} {N ci idx a : Nat} {fs : List Value} (q0 k0 : Nat) {v : Value} {ty : FieldType} (ty0 : Nat → FieldType) (hd : decode cc pc = .ok (.putfield idx, 3)) (he : w[q0]? = some (a, .inr (ci, fs))) (hcl : vwCl[ci]? = some (C0, T0, N)) (hin : ∀ w ∈ u_ws C0 T0 N, w ∈ lw_TB) (hty : ∀ k, k < N → parseFieldDescriptor (T0 k).2.2.1 = some (ty0 k)) (hnm : ∀ a, a < N → ∀ b, b < N → a ≠ b → (T0 a).2.1 ≠ (T0 b).2.1) (hkN : k0 < N) (hlink : Cond.fieldLink own idx (T0 k0).1 (T0 k0).2.1 (T0 k0).2.2.1 ∈ lw_TB) (hfin : (T0 k0).2.2.2 = true) (hdecl : (T0 k0).1 = own) (hdd : parseFieldDescriptor (T0 k0).2.2.1 = some ty) (hna : narrow ty v = v) (hfit : fits ty v = true) (hlen : k0 < fs.length) (pc' : Nat) (hp : pc' = pc + 3) (w' : va_W) (hw : w.set q0 (a, .inr (ci, fs.set k0 v)) = w') (kk : Nb l G X own cc nL d mc ms w0 B w' pc' lv st k n) : Nb l G X own cc nL d mc ms w0 B w pc lv (v :: .ref a :: st) k n := by
  subst hp; subst hw
  intro C H locs ls I
  exact va_putF (C := C0) (T := T0) (N := N) C.1.1 C.1.2.1 C.1.2.2.2.2.1 hin ty0 hty hnm C.1.2.2.2.1 C.1.2.2.2.2.2.1 I.1 I.2.1 I.2.2.1 q0 he hcl k0 hkN (C.1.2.2.2.2.1 _ hlink) (fun _ h9 => h9) hfin C.2.1 hdecl hdd hna hfit hlen hd (fun H1 locs1 hP1 hD1 hS1 => kk C H1 locs1 ls ⟨hP1, hD1, hS1, I.2.2.2⟩)
theorem Ngetf {C0 : String} {T0 : u_T} {N ci idx a : Nat} {fs : List Value} (q0 k0 : Nat) {v : Value} (hd : decode cc pc = .ok (.getfield idx, 3)) (he : w[q0]? = some (a, .inr (ci, fs))) (hcl : vwCl[ci]? = some (C0, T0, N)) (hin : ∀ w ∈ u_ws C0 T0 N, w ∈ lw_TB) (hkN : k0 < N) (hlink : Cond.fieldLink own idx (T0 k0).1 (T0 k0).2.1 (T0 k0).2.2.1 ∈ lw_TB) (hv : fs[k0]? = some v) (pc' : Nat) (hp : pc' = pc + 3) (kk : Nb l G X own cc nL d mc ms w0 B w pc' lv (v :: st) k n) : Nb l G X own cc nL d mc ms w0 B w pc lv (.ref a :: st) k n := by
  subst hp
  intro C H locs ls I
  exact va_get (C := C0) (T := T0) (N := N) C.1.1 C.1.2.1 C.1.2.2.2.2.1 hin C.1.2.2.2.1 C.1.2.2.2.2.2.1 I.1 q0 he hcl k0 hkN (C.1.2.2.2.2.1 _ hlink) (fun _ h9 => h9) hv hd (kk C H locs ls I)
theorem Nlens {a N : Nat} {f : Nat → Option Nat} (q0 : Nat) (v : Int32) (hd : decode cc pc = .ok (.arraylength, 1)) (he : w[q0]? = some (a, .inl ((gC G).2.2, N, .inr (.inr (.inr (.inr f)))))) (hG : gOk G) (hv : Int32.ofNat N = v) (pc' : Nat) (hp : pc' = pc + 1) (kk : Nb l G X own cc nL d mc ms w0 B w pc' lv (.int v :: st) k n) : Nb l G X own cc nL d mc ms w0 B w pc lv (.ref a :: st) k n := by
  subst hp
  intro C H locs ls I
  exact va_alen C.1.1 C.1.2.1 C.1.2.2.2.2.2.1 I.1 q0 2 he hG.2.2 hv hd (kk C H locs ls I)
theorem Naast {a N v : Nat} {f : Nat → Option Nat} {vs : List Value} {i : Int32} (q0 qk : Nat) (hd : decode cc pc = .ok (.aastore, 1)) (he : w[q0]? = some (a, .inl ((gC G).2.2, N, .inr (.inr (.inr (.inr f)))))) (hG : gOk G) (hv : w[qk]? = some (v, .inr (4, vs))) (hin : vp_in i N) (pc' : Nat) (hp : pc' = pc + 1) (w' : va_W) (hw : w.set q0 (a, .inl ((gC G).2.2, N, .inr (.inr (.inr (.inr (va_up f i.toNatClampNeg (some v))))))) = w') (kk : Nb l G X own cc nL d mc ms w0 B w' pc' lv st k n) : Nb l G X own cc nL d mc ms w0 B w pc lv (.ref v :: .int i :: .ref a :: st) k n := by
  subst hp; subst hw
  intro C H locs ls I
  exact va_astq (r := (RX4, TX4, 15)) C.1.1 C.1.2.1 C.1.2.2.2.2.2.1 I.1 I.2.1 I.2.2.1 q0 2 qk 4 he hG.2.2 hv rfl hin hd (fun H1 locs1 hP1 hD1 hS1 => kk C H1 locs1 ls ⟨hP1, hD1, hS1, I.2.2.2⟩)
theorem Ncong (w' : va_W) (hP : ∀ H, va_P G.1 vwCl w H → va_P G.1 vwCl w' H) (hD : ∀ A, va_D A w → va_D A w') (kk : Nb l G X own cc nL d mc ms w0 B w' pc lv st k n) : Nb l G X own cc nL d mc ms w0 B w pc lv st k n := by
  intro C H locs ls I
  exact kk C H locs ls ⟨hP H I.1, hD _ I.2.1, I.2.2.1, I.2.2.2⟩
theorem Nlv {lv' : List (Nat × Value)} (ks : List Nat) (h : lv_pick lv ks = lv') (kk : Nb l G X own cc nL d mc ms w0 B w pc lv' st k n) : Nb l G X own cc nL d mc ms w0 B w pc lv st k n := by
  intro C H locs ls I
  exact kk C H locs ls ⟨I.1, I.2.1, I.2.2.1, lv_sub I.2.2.2 ks h⟩
theorem Nret (hd : decode cc pc = .ok (.return_, 1)) (hB : B w) (hk : k ≤ mc) (hn : n ≤ ms) : Nb l G X own cc nL d mc ms w0 B w pc lv [] k n := by
  intro C H locs ls I
  refine W.widen hk hn ?_
  exact W.vret C.1.1 C.1.2.1 C.1.2.2.2.2.2.2.1 (fun t ht hW => ⟨⟨w, rfl, hB, by rw [ht]; exact I.1, I.2.1⟩, I.2.2.1.F ht⟩) I.2.2.1.2.2 hd C.1.2.2.2.2.2.2.2.1
theorem blind_b (w0 : va_W) (sz : Nat) (avs : List Value) : FrameBlind (va_Pc avs (bPre G w0 sz)) := by
  intro a U g mk q
  obtain ⟨q0, q1, qP, qK, qD, qN, qO⟩ := q
  exact ⟨q0, q1, qP, va_K.moved (u := U) (U := U.calling g mk a) (Vm.Alike.refl U.vm) qK, qD, mN.same (u := U) (U := U.calling g mk a) rfl qN, va_AO.moved (u := U) (U := U.calling g mk a) (Vm.Alike.refl U.vm) qO⟩
/-- behind a constructor's call: the rest of the world, and the callee's -/
theorem Nback {b ci mcy msy : Nat} {fs : List Value} {wr : va_W} {By : va_W → Prop} {a : Array Value} {H : Heap} {locs : List Loc} {ls : Array Slot} (C : Nc G X own cc nL) (I : Nh G X nL w0 (wr ++ [(b, .inr (ci, fs))]) lv H locs ls)
    (hr : va_Run X.1 l X.2.1 (rc d mc ms) X.2.2.1 X.2.2.2.1 X.2.2.2.2.1 X.2.2.2.2.2.1 X.2.2.2.2.2.2.1 X.2.2.2.2.2.2.2 H locs k n mcy msy (F0 X.2.2.2.1 pc ls st0) st (bQ G [(b, .inr (ci, fs))] By H.size a) (va_A [(b, .inr (ci, fs))] H.size))
    (kk : ∀ w1, By w1 → Nb l G X own cc nL d mc ms w0 B (wr ++ w1) (pc + 3) lv st (k + mcy) (n + msy)) : W X.1 l X.2.1 (rc d mc ms) X.2.2.1 X.2.2.2.1 X.2.2.2.2.1 X.2.2.2.2.2.1 X.2.2.2.2.2.2.1 X.2.2.2.2.2.2.2 H locs k n (MQ X.2.2.2.2.2.1 (bQ G w0 B X.2.2.1.heap.size) X.2.2.2.2.1 X.2.2.1 mc ms (va_A w0 X.2.2.1.heap.size)) (F0 X.2.2.2.1 pc ls st0) := by
  have hFc := va_free (wc := [(b, .inr (ci, fs))]) I.2.1 I.2.2.1 (fun q h => Or.inr h) [wr.length] (last_at wr _)
  refine va_callv hr I.2.2.1 (fun q _ h => hFc q h) hFc (fun u t H1 locs1 ht hvm hpost hB hz1 hk1 hS1 => ?_)
  obtain ⟨hP1, hD1⟩ := hB
  rw [ht] at hP1
  obtain ⟨hP2, hD2⟩ := va_join (wr := wr) (w1 := u) I.1 I.2.1 [wr.length] (List.range wr.length) (last_at wr _) (range_at wr _) (nd_range _) (by intro i hi h; rw [List.mem_range] at hi; simp at h; omega) hk1 hFc hP1 hD1
  exact kk u hpost C H1 locs1 ls ⟨hP2, hD2, hS1, I.2.2.2⟩
theorem Npre {b ci : Nat} {fs : List Value} {wr : va_W} {H : Heap} {locs : List Loc} {ls : Array Slot} (C : Nc G X own cc nL) (I : Nh G X nL w0 (wr ++ [(b, .inr (ci, fs))]) lv H locs ls) (avs : List Value) : ∀ U : State, U.heap = H → X.2.2.1.WarmedH U.vm → va_Pc avs (bPre G [(b, .inr (ci, fs))] H.size) avs.toArray U := by
  intro U hU hW
  exact ⟨rfl, by rw [hU], by rw [hU]; exact I.1.sub [wr.length] (last_fm wr _), va_K.moved hW.alike C.1.2.2.2.2.2.1, (I.2.1.sub [wr.length] rfl (last_at wr _)).weaken (fun _ _ _ _ => trivial), mN.warm hW C.1.2.2.2.2.2.2.2.2, va_AO.moved hW.alike C.2.2⟩
theorem Ninit {y : MethodName} {cy : ByteArray} {nLy dy mcy msy nA idx b ci : Nat} {fs : List Value} {wr : va_W} {By : va_W → Prop} (As : List Value) (hd : decode cc pc = .ok (.invokespecial idx, 3)) (hc : Cb l G y cy nLy dy mcy msy (.ref b :: As) [(b, .inr (ci, fs))] By) (hm : mW y cy nLy none nA) (hyi : y.name = "<init>") (him : Cond.instanceMethod y ∈ lw_TB) (hl : Cond.methodLink own idx y ∈ lw_TB) (hdy : dy + 1 ≤ d) (hn : As.length = nA) (hst : st0 = As.reverse ++ .ref b :: st) (hrest : (st.map fun v => v.category).sum ≤ 8) (hk : k + mcy ≤ mc) (hs : n + msy ≤ ms) (pc' : Nat) (hp : pc' = pc + 3) (kk : ∀ w1, By w1 → Nb l G X own cc nL d mc ms w0 B (wr ++ w1) pc' lv st (k + mcy) (n + msy)) : Nb l G X own cc nL d mc ms w0 B (wr ++ [(b, .inr (ci, fs))]) pc lv st0 k n := by
  subst hp
  intro C H locs ls I
  exact Nback C I (va_runI (Ts := lw_TB) (As := As) (rest := st) ⟨C.1.1, C.1.2.1, C.1.2.2.1, C.1.2.2.2.1, C.1.2.2.2.2.1⟩ (hc H.size) ⟨callB_g hm C.1.2.2.2.2.1 hl rfl rfl ⟨hdy, by show 40 * dy + 40 ≤ 40 * d; omega⟩, hyi, C.1.2.2.2.2.1 _ him⟩ ⟨blind_b _ _ _, Npre C I _⟩ rfl hn I.2.2.2.1 hst (lv_room hrest) hd ⟨hk, hs⟩) kk
theorem NinitN {y : MethodName} {host : String} {cy : ByteArray} {nLy dy mcy msy nA idx b ci : Nat} {fs : List Value} {wr : va_W} {By : va_W → Prop} (As : List Value) (hd : decode cc pc = .ok (.invokespecial idx, 3)) (hc : Cb l G y cy nLy dy mcy msy (.ref b :: As) [(b, .inr (ci, fs))] By) (hm : mW y cy nLy none nA) (hyi : y.name = "<init>") (him : Cond.instanceMethod y ∈ lw_TB) (hl : Cond.methodLinkNest own idx y host ∈ lw_nest) (hdy : dy + 1 ≤ d) (hn : As.length = nA) (hst : st0 = As.reverse ++ .ref b :: st) (hrest : (st.map fun v => v.category).sum ≤ 8) (hk : k + mcy ≤ mc) (hs : n + msy ≤ ms) (pc' : Nat) (hp : pc' = pc + 3) (kk : ∀ w1, By w1 → Nb l G X own cc nL d mc ms w0 B (wr ++ w1) pc' lv st (k + mcy) (n + msy)) : Nb l G X own cc nL d mc ms w0 B (wr ++ [(b, .inr (ci, fs))]) pc lv st0 k n := by
  subst hp
  intro C H locs ls I
  have hR : (rc dy mcy msy).frames + 1 ≤ (rc d mc ms).frames ∧ 8 + (nLy + 11) + (rc dy mcy msy).locals ≤ (rc d mc ms).locals := by
    refine ⟨hdy, ?_⟩
    have h5 := hm.2.2.2.2
    show 8 + (nLy + 11) + 40 * dy ≤ 40 * d
    omega
  exact Nback C I (va_runIN (Ts := lw_TB) (As := As) (rest := st) ⟨C.1.1, C.1.2.1, C.1.2.2.1, C.1.2.2.2.1, C.1.2.2.2.2.1⟩ (hc H.size) ⟨va_cnB nA C.1.2.2.2.2.1 (good_ws hm) rfl rfl rfl (C.1.2.2.2.2.2.2.2.2 _ hl) (C.1.2.2.2.2.1 _ hm.2.1) ⟨hm.2.2.1.1, hm.2.2.1.2, hm.2.2.2.1⟩ hR, hyi, C.1.2.2.2.2.1 _ him⟩ ⟨blind_b _ _ _, Npre C I _⟩ rfl hn I.2.2.2.1 hst (lv_room hrest) hd ⟨hk, hs⟩) kk
/-- a method of the object itself, whose world is whole now -/
theorem NcallV {y : MethodName} {cy : ByteArray} {nLy dy nA idx q ci : Nat} {cl : vw_C} {a : Nat → Nat} {L : List Nat} {σ : mS} {T : Int32 × mS} (hd : decode cc pc = .ok (.invokevirtual idx, 3)) (hc : Ct l (gW G a L) y cy nLy none dy [.ref (a q)] κV σ T) (hm : mW y cy nLy none nA) (hA : nA = 0) (him : Cond.instanceMethod y ∈ lw_TB) (hse : Cond.selects y.cls y y ∈ lw_TB) (hl : Cond.methodLink own idx y ∈ lw_TB) (hq : q ∈ L) (hk : wK q = ci + 3) (hcl : vwCl[ci]? = some cl) (hcn : cl.1 = y.cls) (hdy : dy + 1 ≤ d) (hst : st0 = [.ref (a q)]) (hk9 : k ≤ mc) (hs9 : n ≤ ms) (pc' : Nat) (hp : pc' = pc + 3) (kk : Nb l G X own cc nL d mc ms w0 B (wD (gW G a L) T.2) pc' lv [] k n) : Nb l G X own cc nL d mc ms w0 B (wD (gW G a L) σ) pc lv st0 k n := by
  subst hp; subst hst; subst hA
  intro C H locs ls I S hS Xs
  obtain ⟨j, hj, hw⟩ := wD_at (G := gW G a L) hq σ
  rw [wE_o hk] at hw
  have hrc := va_recv C.1.2.2.2.2.2.1 I.1 hcl hw
  rw [hcn] at hrc
  have hR : va_Run X.1 l X.2.1 (rc d mc ms) X.2.2.1 X.2.2.2.1 X.2.2.2.2.1 X.2.2.2.2.2.1 X.2.2.2.2.2.2.1 X.2.2.2.2.2.2.2 H locs k n 0 0 (F0 X.2.2.2.1 pc ls [.ref (a q)]) [] (mQ (gW G a L) κV T [Value.ref (a q)].toArray) (mA (gW G a L)) := va_runV (As := []) (rest := []) (Ts := lw_TB) (b := a q) ⟨C.1.1, C.1.2.1, C.1.2.2.1, C.1.2.2.2.1, C.1.2.2.2.2.1⟩ hc ⟨callB_g hm C.1.2.2.2.2.1 hl rfl rfl ⟨hdy, by show 40 * dy + 40 ≤ 40 * d; omega⟩, C.1.2.2.2.2.1 _ him, C.1.2.2.2.2.1 _ hse⟩ ⟨blind_m (gW G a L) σ _, hrc, fun U hU hW => ⟨rfl, by rw [hU]; exact I.1, va_K.moved hW.alike C.1.2.2.2.2.2.1, I.2.1.weaken (fun _ _ _ _ => trivial), mN.warm hW C.1.2.2.2.2.2.2.2.2⟩⟩ rfl rfl I.2.2.2.1 rfl (lv_room (Nat.zero_le _)) hd ⟨hk9, hs9⟩
  obtain ⟨v, st₀, t, T', Lc, h0, X', hL, e1, e2, ⟨⟨hv, hP⟩, hz, hk2⟩, stp⟩ := hR S hS Xs
  obtain rfl : v = none := by injection hv
  rw [h0] at hz hk2
  rw [← e1] at hz hk2 hP
  have hF : ∀ q, mA (gW G a L) q → va_A w0 X.2.2.1.heap.size q := by
    rintro _ ⟨k', hk', rfl⟩
    obtain ⟨j2, -, hw2⟩ := wD_at (G := gW G a L) hk' σ
    exact I.2.1.2 j2 _ hw2
  obtain ⟨t2, a1, b1⟩ := kk C T'.heap (locs ++ Lc) ls ⟨hP, wD_adr I.2.1 (fun _ h => h), ⟨Nat.le_trans I.2.2.1.1 hz, fun q h1 h2 => by rw [hk2 q (Nat.lt_of_lt_of_le h1 I.2.2.1.1) (fun z => h2 (hF q z))]; exact I.2.2.1.2.1 q h1 h2, fun q hq => by
      rcases List.mem_append.mp hq with h | h
      · exact I.2.2.1.2.2 q h
      · exact hF _ (hL q h)⟩, I.2.2.2⟩ T' rfl X'
  exact ⟨t2, stp t2 a1, b1⟩
end NR
