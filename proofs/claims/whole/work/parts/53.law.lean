/-! THE CLAIM OUT OF ONE WALK OF THE LAW'S BODY. Your part is whole_start (and what it stands on); all else here is the same for every law, but numbers. -/
def R_law : String := "MutableCellsLaw"
def lw_P (b : Addr) (xs : List Int32) (args : Array Value) (s : State) : Prop := args = #[.ref b] ∧ s.IntsAt b xs ∧ xs.length ≤ 3072 ∧ (Jvm.Cond.and given_1 narrow_1).before args s = true
def lw_Q (_ : Array Value) (s : State) (o : Outcome) (t : State) : Prop := o = .returned (some (.int 1)) ∧ Framed s o t [] 600000 7302250
def lw_Z (below : List Frame) (a : Array Value) (s : State) : State → Prop := fun t => ∃ o, t.status = .running ∧ Ended t below o ∧ lw_Q a s o t
/-- the law's own end, with 1 on the stack, nothing written that was there before, its room as the claim has it -/
theorem lw_ret {p : Program} {l : Launch} {e : Env} {s : State} {m : MethodId} {below : List Frame} {meth : Method} {c : Code} {b : Nat} (hx : p.tables.exec = Jvm.exec) (hb : c.code = code) (hr : meth.sig.returnType = ret) (hlocks : meth.locks = false) {pc : Nat} {H : Heap} {ls : Array Slot} (hdg : decode code pc = .ok (.ireturn, 1)) : W p l e room_1 s m #[Value.ref b] below meth c H [] 600000 7302250 (lw_Z below #[Value.ref b] s) (F0 m pc ls [.int 1]) := by
  intro T hT X
  obtain ⟨fs, hret, hrun, hended, hW, hframe⟩ := X.leave (v := some (.int 1)) (hlocks := hlocks) (fun h => by rw [hr] at h; cases h)
  have hmeth' : T.vm.method? m = some meth := X.method'
  refine ⟨T.setFrames fs, ?_, .returned (some (.int 1)), hrun, hended, rfl, ⟨_, rfl⟩, hW, hframe⟩
  jvm_step X.here [X.here.top, hx, hb, hdg, hmeth', hr, ret, narrow_b1]
  (try refine ⟨rfl, ?_⟩); (try refine ⟨rfl, ?_⟩)
  first | (intro acts; rw [hret _ acts rfl rfl rfl]) | rw [hret _ _ rfl rfl rfl]
  exact Steps.refl _
/-- what holds at the law's entry: the machine, the code, the tables' words (any of lw_tbl by 'hts w (by decide +kernel)'), the script of L ints xs at the cell b, what the Statement gives of the start (any of its parts by flat_of_before) -/
def lw_At (p : Program) (s : State) (m : MethodId) (meth : Method) (c : Code) (b L : Nat) (xs : Nat → Int32) : Prop :=
  p.tables.exec = Jvm.exec ∧ c.code = code ∧ meth.sig.returnType = ret ∧ c.maxLocals = 4 ∧ s.vm.findClass R_law = some m.cls ∧ (∀ w ∈ lw_tbl, w.before #[Value.ref b] s = true) ∧ va_X b L xs s s.heap ∧ b < s.heap.size ∧ meth.locks = false ∧ (Jvm.Cond.and given_1 narrow_1).before #[Value.ref b] s = true
/-! the law's walk: the world is a list of cells, all of them made since the start -/
def lA (X : xT) : Nat → Prop := fun q => X.2.2.1.heap.size ≤ q
def Lc (G : gT) (X : xT) (b L : Nat) (xs : Nat → Int32) : Prop := Vc G X RL cL_law 4 ret ∧ va_AO "MutableCells$Strand" X.2.2.1 ∧ va_X b L xs X.2.2.1 X.2.2.1.heap ∧ b < X.2.2.1.heap.size ∧ X.2.2.2.2.1 = #[Value.ref b]
def Lh (G : gT) (X : xT) (w : va_W) (lv : List (Nat × Value)) (H : Heap) (locs : List Loc) (ls : Array Slot) : Prop :=
  va_P G.1 vwCl w H ∧ va_D (lA X) w ∧ va_S (lA X) X.2.2.1.heap H locs ∧ lv_has ls 4 lv
def Lb (l : Launch) (G : gT) (X : xT) (b L : Nat) (xs : Nat → Int32) (w : va_W) (pc : Nat) (lv : List (Nat × Value)) (st : List Value) (k n : Nat) : Prop :=
  Lc G X b L xs → ∀ (H : Heap) (locs : List Loc) (ls : Array Slot), Lh G X w lv H locs ls →
    W X.1 l X.2.1 room_1 X.2.2.1 X.2.2.2.1 X.2.2.2.2.1 X.2.2.2.2.2.1 X.2.2.2.2.2.2.1 X.2.2.2.2.2.2.2 H locs k n (lw_Z X.2.2.2.2.2.1 X.2.2.2.2.1 X.2.2.1) (F0 X.2.2.2.1 pc ls st)
theorem va_D_fst {A : Nat → Prop} {w w' : va_W} (h : w'.map Prod.fst = w.map Prod.fst) (hD : va_D A w) : va_D A w' := by
  have key : ∀ (i : Nat) (p : Nat × va_E), w'[i]? = some p → ∃ p', w[i]? = some p' ∧ p'.1 = p.1 := by
    intro i p hp
    have h1 : (w'.map Prod.fst)[i]? = some p.1 := by rw [List.getElem?_map, hp]; rfl
    rw [h, List.getElem?_map] at h1
    cases hi : w[i]? with
    | none => rw [hi] at h1; cases h1
    | some q => rw [hi] at h1; exact ⟨q, rfl, Option.some.inj h1⟩
  refine ⟨fun i j p q hp hq e => ?_, fun k q hk => ?_⟩
  · obtain ⟨p', a1, a2⟩ := key i p hp
    obtain ⟨q', b1, b2⟩ := key j q hq
    exact hD.1 i j p' q' a1 b1 (by rw [a2, b2]; exact e)
  · obtain ⟨q', b1, b2⟩ := key k q hk
    rw [← b2]; exact hD.2 k q' b1
section LR
variable {l : Launch} {G : gT} {X : xT} {b L : Nat} {xs : Nat → Int32} {w w' : va_W} {pc k n : Nat} {lv : List (Nat × Value)} {st st0 : List Value}
theorem Laload_n {i : Fin 4} {x : Nat} (hd : decode cL_law pc = .ok (.aload_n i, 1)) (j : Nat) (hj : lv[j]? = some ((i : Nat), .ref x)) (pc' : Nat) (hp : pc' = pc + 1) (kk : Lb l G X b L xs w pc' lv (.ref x :: st) k n) : Lb l G X b L xs w pc lv st k n := by
  subst hp
  intro C H locs ls I
  exact lv_aload_n C.1.1 C.1.2.1 hd rfl (lv_at I.2.2.2 j hj) (kk C H locs ls I)
theorem Lload_n {i : Fin 4} {x : Int32} (hd : decode cL_law pc = .ok (.iload_n i, 1)) (j : Nat) (hj : lv[j]? = some ((i : Nat), .int x)) (pc' : Nat) (hp : pc' = pc + 1) (kk : Lb l G X b L xs w pc' lv (.int x :: st) k n) : Lb l G X b L xs w pc lv st k n := by
  subst hp
  intro C H locs ls I
  exact lv_iload_n C.1.1 C.1.2.1 hd rfl (lv_at I.2.2.2 j hj) (kk C H locs ls I)
theorem Lconst {z : Int} (hd : decode cL_law pc = .ok (.iconst z, 1)) (v : Int32) (hv : Int32.ofInt z = v) (pc' : Nat) (hp : pc' = pc + 1) (kk : Lb l G X b L xs w pc' lv (.int v :: st) k n) : Lb l G X b L xs w pc lv st k n := by
  subst hp
  intro C H locs ls I
  exact lv_iconst C.1.1 C.1.2.1 hd hv (kk C H locs ls I)
theorem Lbipush {z : Int} (hd : decode cL_law pc = .ok (.bipush z, 2)) (v : Int32) (hv : (Int8.ofInt z).toInt32 = v) (pc' : Nat) (hp : pc' = pc + 2) (kk : Lb l G X b L xs w pc' lv (.int v :: st) k n) : Lb l G X b L xs w pc lv st k n := by
  subst hp
  intro C H locs ls I
  exact lv_bipush C.1.1 C.1.2.1 hd hv (kk C H locs ls I)
theorem Ldup {v : Nat} (hd : decode cL_law pc = .ok (.dup, 1)) (pc' : Nat) (hp : pc' = pc + 1) (kk : Lb l G X b L xs w pc' lv (.ref v :: .ref v :: st) k n) : Lb l G X b L xs w pc lv (.ref v :: st) k n := by
  subst hp
  intro C H locs ls I
  exact lv_dup C.1.1 C.1.2.1 hd rfl (kk C H locs ls I)
theorem Lstore_n {i : Fin 4} {x : Int32} (hd : decode cL_law pc = .ok (.istore_n i, 1)) (lv' : List (Nat × Value)) (pc' : Nat) (hp : pc' = pc + 1) (hn : (i : Nat) < 4) (hl : ((i : Nat), .int x) :: lv.filter (fun q => !(q.1 == (i : Nat)) && !(q.1 + 1 == (i : Nat) && q.2.category == 2)) = lv') (kk : Lb l G X b L xs w pc' lv' st k n) : Lb l G X b L xs w pc lv (.int x :: st) k n := by
  subst hp
  intro C H locs ls I
  exact lv_istore_n C.1.1 C.1.2.1 hd rfl I.2.2.2 hn hl (fun ls1 h1 => kk C H locs ls1 ⟨I.1, I.2.1, I.2.2.1, h1⟩)
theorem Liinc {i : Nat} {z : Int} {x : Int32} (hd : decode cL_law pc = .ok (.iinc i z, 3)) (v : Int32) (j : Nat) (lv' : List (Nat × Value)) (pc' : Nat) (hp : pc' = pc + 3) (hk : lv[j]? = some (i, .int x)) (hv : x + Int32.ofInt z = v) (hn : i < 4) (hl : (i, Value.int v) :: lv.filter (fun q => !(q.1 == i) && !(q.1 + 1 == i && q.2.category == 2)) = lv') (kk : Lb l G X b L xs w pc' lv' st k n) : Lb l G X b L xs w pc lv st k n := by
  subst hp
  intro C H locs ls I
  exact lv_iinc C.1.1 C.1.2.1 hd I.2.2.2 hk hv hn hl (fun ls1 h1 => kk C H locs ls1 ⟨I.1, I.2.1, I.2.2.1, h1⟩)
theorem Lgoto {off : Int} (hd : decode cL_law pc = .ok (.goto off, 3)) (tgt : Nat) (ht : (pc : Int) + off = (tgt : Int)) (kk : Lb l G X b L xs w tgt lv st k n) : Lb l G X b L xs w pc lv st k n := by
  intro C H locs ls I
  exact lv_goto C.1.1 C.1.2.1 hd ht (kk C H locs ls I)
theorem Lnew {C0 : String} {T0 : u_T} {N idx : Nat} (ci : Nat) (fs : List Value) (hd : decode cL_law pc = .ok (.new idx, 3)) (hcl : vwCl[ci]? = some (C0, T0, N)) (hin : ∀ w ∈ u_ws C0 T0 N, w ∈ lw_TB) (ty : Nat → FieldType) (hty : ∀ k, k < N → parseFieldDescriptor (T0 k).2.2.1 = some (ty k)) (hl : Cond.classLink RL idx C0 ∈ lw_TB) (hi : Cond.instantiable C0 N ∈ lw_TB) (hini : Cond.initialized C0 ∈ lw_TB) (hfs : ∀ j, j < N → defaultValue (ty j) = vp_V fs j) (pc' : Nat) (hp : pc' = pc + 3) (hk : k + 1 ≤ 600000) (hs : n + N ≤ 7302250) (kk : ∀ q, Lb l G X b L xs (w ++ [(q, .inr (ci, fs))]) pc' lv (.ref q :: st) (k + 1) (n + N)) : Lb l G X b L xs w pc lv st k n := by
  subst hp
  intro C H locs ls I
  exact va_new (C := C0) (T := T0) (N := N) C.1.1 C.1.2.1 C.1.2.2.2.2.1 hin ty hty C.1.2.2.2.1 (C.1.2.2.2.2.1 _ hl) (C.1.2.2.2.2.1 _ hi) (C.1.2.2.2.2.1 _ hini) C.1.2.2.2.2.2.1 I.1 I.2.1 I.2.2.1 (fun q h => h) hcl hfs hk hs hd (fun q H1 hP1 hD1 hS1 => kk q C H1 locs ls ⟨hP1, hD1, hS1, I.2.2.2⟩)
theorem Llv {lv' : List (Nat × Value)} (ks : List Nat) (h : lv_pick lv ks = lv') (kk : Lb l G X b L xs w pc lv' st k n) : Lb l G X b L xs w pc lv st k n := by
  intro C H locs ls I
  exact kk C H locs ls ⟨I.1, I.2.1, I.2.2.1, lv_sub I.2.2.2 ks h⟩
theorem Lastore_n {i : Fin 4} {x : Nat} (hd : decode cL_law pc = .ok (.astore_n i, 1)) (lv' : List (Nat × Value)) (pc' : Nat) (hp : pc' = pc + 1) (hn : (i : Nat) < 4) (hl : ((i : Nat), .ref x) :: lv.filter (fun q => !(q.1 == (i : Nat)) && !(q.1 + 1 == (i : Nat) && q.2.category == 2)) = lv') (kk : Lb l G X b L xs w pc' lv' st k n) : Lb l G X b L xs w pc lv (.ref x :: st) k n := by
  subst hp
  intro C H locs ls I
  exact lv_astore_n C.1.1 C.1.2.1 hd rfl I.2.2.2 hn hl (fun ls1 h1 => kk C H locs ls1 ⟨I.1, I.2.1, I.2.2.1, h1⟩)
theorem Ladd {x y : Int32} (hd : decode cL_law pc = .ok (.iadd, 1)) (pc' : Nat) (hp : pc' = pc + 1) (kk : Lb l G X b L xs w pc' lv (.int (x + y) :: st) k n) : Lb l G X b L xs w pc lv (.int y :: .int x :: st) k n := by
  subst hp
  intro C H locs ls I
  exact lv_iadd C.1.1 C.1.2.1 hd (kk C H locs ls I)
theorem Lsub {x y : Int32} (hd : decode cL_law pc = .ok (.isub, 1)) (pc' : Nat) (hp : pc' = pc + 1) (kk : Lb l G X b L xs w pc' lv (.int (x - y) :: st) k n) : Lb l G X b L xs w pc lv (.int y :: .int x :: st) k n := by
  subst hp
  intro C H locs ls I
  exact lv_isub C.1.1 C.1.2.1 hd (kk C H locs ls I)
theorem Land {x y : Int32} (hd : decode cL_law pc = .ok (.iand, 1)) (pc' : Nat) (hp : pc' = pc + 1) (kk : Lb l G X b L xs w pc' lv (.int (x &&& y) :: st) k n) : Lb l G X b L xs w pc lv (.int y :: .int x :: st) k n := by
  subst hp
  intro C H locs ls I
  exact lv_iand C.1.1 C.1.2.1 hd (kk C H locs ls I)
theorem Lslen (hd : decode cL_law pc = .ok (.arraylength, 1)) (pc' : Nat) (hp : pc' = pc + 1) (kk : Lb l G X b L xs w pc' lv (.int (nI L) :: st) k n) : Lb l G X b L xs w pc lv (.ref b :: st) k n := by
  subst hp
  intro C H locs ls I
  exact va_slen C.1.1 C.1.2.1 C.2.2.1 C.2.2.2.1 (Nat.not_le.mpr C.2.2.2.1) I.2.2.1 hd (kk C H locs ls I)
theorem Lsld {i : Int32} (hd : decode cL_law pc = .ok (.iaload, 1)) (pc' : Nat) (hp : pc' = pc + 1) (hin : vp_in i L) (kk : Lb l G X b L xs w pc' lv (.int (xs i.toNatClampNeg) :: st) k n) : Lb l G X b L xs w pc lv (.int i :: .ref b :: st) k n := by
  subst hp
  intro C H locs ls I
  exact va_sld C.1.1 C.1.2.1 C.2.2.1 C.2.2.2.1 (Nat.not_le.mpr C.2.2.2.1) I.2.2.1 hin hd (kk C H locs ls I)
theorem Licgt {x y : Int32} {off : Int} (hd : decode cL_law pc = .ok (.if_icmp .gt off, 3)) (tgt pc' : Nat) (ht : (pc : Int) + off = (tgt : Int)) (hp : pc' = pc + 3) (kt : y < x → Lb l G X b L xs w tgt lv st k n) (kf : ¬ y < x → Lb l G X b L xs w pc' lv st k n) : Lb l G X b L xs w pc lv (.int y :: .int x :: st) k n := by
  subst hp
  intro C H locs ls I
  exact lv_icmp_gt C.1.1 C.1.2.1 hd ht (fun h => kt h C H locs ls I) (fun h => kf h C H locs ls I)
theorem Liceq {x y : Int32} {off : Int} (hd : decode cL_law pc = .ok (.if_icmp .eq off, 3)) (tgt : Nat) (ht : (pc : Int) + off = (tgt : Int)) (hc : x = y) (kk : Lb l G X b L xs w tgt lv st k n) : Lb l G X b L xs w pc lv (.int y :: .int x :: st) k n := by
  intro C H locs ls I
  exact lv_icmp_eq C.1.1 C.1.2.1 hd ht (fun _ => kk C H locs ls I) (fun h => absurd hc h)
theorem Lswin {dflt lo hi : Int} {offs : Array Int} {len : Nat} {x : Int32} {off : Int} (hd : decode cL_law pc = .ok (.tableswitch dflt lo hi offs, len)) (tgt : Nat) (h1 : ¬ x.toInt < lo) (h2 : ¬ hi < x.toInt) (ho : offs[(x.toInt - lo).toNat]? = some off) (ht : (pc : Int) + off = (tgt : Int)) (kk : Lb l G X b L xs w tgt lv st k n) : Lb l G X b L xs w pc lv (.int x :: st) k n := by
  intro C H locs ls I
  exact lv_tableIn C.1.1 C.1.2.1 hd h1 h2 ho ht (kk C H locs ls I)
theorem Lswout {dflt lo hi : Int} {offs : Array Int} {len : Nat} {x : Int32} (hd : decode cL_law pc = .ok (.tableswitch dflt lo hi offs, len)) (tgt : Nat) (h : x.toInt < lo ∨ hi < x.toInt) (ht : (pc : Int) + dflt = (tgt : Int)) (kk : Lb l G X b L xs w tgt lv st k n) : Lb l G X b L xs w pc lv (.int x :: st) k n := by
  intro C H locs ls I
  exact lv_tableOut C.1.1 C.1.2.1 hd h ht (kk C H locs ls I)
theorem Leq (w' : va_W) (hw : w = w') (kk : Lb l G X b L xs w' pc lv st k n) : Lb l G X b L xs w pc lv st k n := by
  subst hw; exact kk
theorem Lret (hd : decode cL_law pc = .ok (.ireturn, 1)) (hk : k ≤ 600000) (hn : n ≤ 7302250) : Lb l G X b L xs w pc lv [.int 1] k n := by
  intro C H locs ls I
  have hA := C.2.2.2.2
  refine va_forget (fun q hq => I.2.2.1.2.2 q hq) ?_
  refine W.widen hk hn ?_
  rw [hA]
  exact lw_ret C.1.1 C.1.2.1 C.1.2.2.2.2.2.2.1 C.1.2.2.2.2.2.2.2.1 hd
theorem Lpre {b0 ci : Nat} {fs : List Value} {wr : va_W} {H : Heap} {locs : List Loc} {ls : Array Slot} (C : Lc G X b L xs) (I : Lh G X (wr ++ [(b0, .inr (ci, fs))]) lv H locs ls) (avs : List Value) : ∀ U : State, U.heap = H → X.2.2.1.WarmedH U.vm → va_Pc avs (bPre G [(b0, .inr (ci, fs))] H.size) avs.toArray U := by
  intro U hU hW
  exact ⟨rfl, by rw [hU], by rw [hU]; exact I.1.sub [wr.length] (last_fm wr _), va_K.moved hW.alike C.1.2.2.2.2.2.1, (I.2.1.sub [wr.length] rfl (last_at wr _)).weaken (fun _ _ _ _ => trivial), mN.warm hW C.1.2.2.2.2.2.2.2.2, va_AO.moved hW.alike C.2.1⟩
theorem Linit {y : MethodName} {cy : ByteArray} {nLy dy mcy msy nA idx b0 ci : Nat} {fs : List Value} {wr : va_W} {By : va_W → Prop} (As : List Value) (hd : decode cL_law pc = .ok (.invokespecial idx, 3)) (hc : Cb l G y cy nLy dy mcy msy (.ref b0 :: As) [(b0, .inr (ci, fs))] By) (hm : mW y cy nLy none nA) (hyi : y.name = "<init>") (him : Cond.instanceMethod y ∈ lw_TB) (hl : Cond.methodLink RL idx y ∈ lw_TB) (hdy : dy ≤ 8) (hn : As.length = nA) (hst : st0 = As.reverse ++ .ref b0 :: st) (hrest : (st.map fun v => v.category).sum ≤ 8) (hk : k + mcy ≤ 600000) (hs : n + msy ≤ 7302250) (pc' : Nat) (hp : pc' = pc + 3) (kk : ∀ w1, By w1 → Lb l G X b L xs (wr ++ w1) pc' lv st (k + mcy) (n + msy)) : Lb l G X b L xs (wr ++ [(b0, .inr (ci, fs))]) pc lv st0 k n := by
  subst hp
  intro C H locs ls I
  have hFc := va_free (wc := [(b0, .inr (ci, fs))]) I.2.1 I.2.2.1 (fun q h => h) [wr.length] (last_at wr _)
  refine va_callv (va_runI (Ts := lw_TB) (As := As) (rest := st) ⟨C.1.1, C.1.2.1, C.1.2.2.1, C.1.2.2.2.1, C.1.2.2.2.2.1⟩ (hc H.size) ⟨callB_g hm C.1.2.2.2.2.1 hl rfl rfl ⟨by show dy + 1 ≤ 10; omega, by show 40 * dy + 40 ≤ 402; omega⟩, hyi, C.1.2.2.2.2.1 _ him⟩ ⟨blind_b _ _ _, Lpre C I _⟩ rfl hn I.2.2.2.1 hst (lv_room hrest) hd ⟨hk, hs⟩) I.2.2.1 (fun q _ h => hFc q h) hFc (fun u t H1 locs1 ht hvm hpost hB hz1 hk1 hS1 => ?_)
  obtain ⟨hP1, hD1⟩ := hB
  rw [ht] at hP1
  obtain ⟨hP2, hD2⟩ := va_join (wr := wr) (w1 := u) I.1 I.2.1 [wr.length] (List.range wr.length) (last_at wr _) (range_at wr _) (nd_range _) (by intro i hi h; rw [List.mem_range] at hi; simp at h; omega) hk1 hFc hP1 hD1
  exact kk u hpost C H1 locs1 ls ⟨hP2, hD2, hS1, I.2.2.2⟩
theorem Lback {G' : gT} {T : Int32 × mS} {a : Array Value} {H : Heap} {locs : List Loc} {ls : Array Slot} (C : Lc G X b L xs) (I : Lh G X w lv H locs ls) (hF : ∀ q, mA G' q → lA X q) (hP' : ∀ H1 : Heap, mP G' T.2 H1 → (∀ q : Nat, q < H.size → ¬ mA G' q → H1[q]? = H[q]?) → va_P G.1 vwCl w' H1) (hD' : va_D (lA X) w')
    (hr : va_Run X.1 l X.2.1 room_1 X.2.2.1 X.2.2.2.1 X.2.2.2.2.1 X.2.2.2.2.2.1 X.2.2.2.2.2.2.1 X.2.2.2.2.2.2.2 H locs k n 0 0 (F0 X.2.2.2.1 pc ls st0) st (mQ G' κI T a) (mA G'))
    (kk : Lb l G X b L xs w' (pc + 3) lv (.int T.1 :: st) k n) : W X.1 l X.2.1 room_1 X.2.2.1 X.2.2.2.1 X.2.2.2.2.1 X.2.2.2.2.2.1 X.2.2.2.2.2.2.1 X.2.2.2.2.2.2.2 H locs k n (lw_Z X.2.2.2.2.2.1 X.2.2.2.2.1 X.2.2.1) (F0 X.2.2.2.1 pc ls st0) := by
  intro S hS Xs
  obtain ⟨v, st₀, t, T', Lc, h0, X', hL, e1, e2, ⟨⟨hv, hP⟩, hz, hk⟩, stp⟩ := hr S hS Xs
  obtain rfl : v = κI T.1 := by injection hv
  rw [h0] at hz hk
  rw [← e1] at hz hk hP
  obtain ⟨t2, a1, b1⟩ := kk C T'.heap (locs ++ Lc) ls ⟨hP' _ hP hk, hD', ⟨Nat.le_trans I.2.2.1.1 hz, fun q h1 h2 => by rw [hk q (Nat.lt_of_lt_of_le h1 I.2.2.1.1) (fun z => h2 (hF q z))]; exact I.2.2.1.2.1 q h1 h2, fun q hq => by
      rcases List.mem_append.mp hq with h | h
      · exact I.2.2.1.2.2 q h
      · exact hF _ (hL q h)⟩, I.2.2.2⟩ T' rfl X'
  exact ⟨t2, stp t2 a1, b1⟩
/-- a call on the object of G', which stands behind w1 and before w2 -/
theorem Lcall {w1 w2 : va_W} {a : Nat → Nat} {Lq : List Nat} {y : MethodName} {cy : ByteArray} {nLy dy nA idx q ci : Nat} {cl : vw_C} {σ : mS} {T : Int32 × mS} (As : List Value) (hw : w = w1 ++ (wD (gW G a Lq) σ ++ w2)) (hw' : w' = w1 ++ (wD (gW G a Lq) T.2 ++ w2)) (hd : decode cL_law pc = .ok (.invokevirtual idx, 3)) (hc : Ct l (gW G a Lq) y cy nLy (some .int) dy (.ref (a q) :: As) κI σ T) (hm : mW y cy nLy (some .int) nA) (him : Cond.instanceMethod y ∈ lw_TB) (hse : Cond.selects y.cls y y ∈ lw_TB) (hl : Cond.methodLink RL idx y ∈ lw_TB) (hq : q ∈ Lq) (hk : wK q = ci + 3) (hcl : vwCl[ci]? = some cl) (hcn : cl.1 = y.cls) (hdy : dy ≤ 8) (hn : As.length = nA) (hst : st0 = As.reverse ++ .ref (a q) :: st) (hrest : (st.map fun v => v.category).sum ≤ 8) (hk9 : k ≤ 600000) (hs9 : n ≤ 7302250) (pc' : Nat) (hp : pc' = pc + 3) (kk : Lb l G X b L xs w' pc' lv (.int T.1 :: st) k n) : Lb l G X b L xs w pc lv st0 k n := by
  subst hp; subst hw; subst hw'
  intro C H locs ls I
  have hPm : mP (gW G a Lq) σ H := fun i x hx => I.1 (w1.length + i) x (by
    rw [List.getElem?_append_right (by omega), Nat.add_sub_cancel_left, List.getElem?_append_left (List.getElem?_eq_some_iff.mp hx).1]; exact hx)
  have hDm : ∀ i x, (wD (gW G a Lq) σ)[i]? = some x → (w1 ++ (wD (gW G a Lq) σ ++ w2))[w1.length + i]? = some x := fun i x hx => by
    rw [List.getElem?_append_right (by omega), Nat.add_sub_cancel_left, List.getElem?_append_left (List.getElem?_eq_some_iff.mp hx).1]; exact hx
  have hF : ∀ q', mA (gW G a Lq) q' → lA X q' := by
    rintro _ ⟨k', hk', rfl⟩
    obtain ⟨j2, -, hw2⟩ := wD_at (G := gW G a Lq) hk' σ
    exact I.2.1.2 _ _ (hDm j2 _ hw2)
  have hlen : (wD (gW G a Lq) T.2).length = (wD (gW G a Lq) σ).length := by unfold wD; rw [List.length_map, List.length_map]
  have hfst : (w1 ++ (wD (gW G a Lq) T.2 ++ w2)).map Prod.fst = (w1 ++ (wD (gW G a Lq) σ ++ w2)).map Prod.fst := by
    simp only [List.map_append, wD, List.map_map, Function.comp_def]
  obtain ⟨j, hj, hwj⟩ := wD_at (G := gW G a Lq) hq σ
  rw [wE_o hk] at hwj
  have hrc := va_recv C.1.2.2.2.2.2.1 hPm hcl hwj
  rw [hcn] at hrc
  refine Lback (G' := gW G a Lq) (T := T) (a := (Value.ref (a q) :: As).toArray) C I hF (fun H1 hP1 hk1 => ?_) (va_D_fst hfst I.2.1) (va_runV (Ts := lw_TB) (As := As) (rest := st) (b := a q) ⟨C.1.1, C.1.2.1, C.1.2.2.1, C.1.2.2.2.1, C.1.2.2.2.2.1⟩ hc ⟨callB_g hm C.1.2.2.2.2.1 hl rfl rfl ⟨by show dy + 1 ≤ 10; omega, by show 40 * dy + 40 ≤ 402; omega⟩, C.1.2.2.2.2.1 _ him, C.1.2.2.2.2.1 _ hse⟩ ⟨blind_m (gW G a Lq) σ _, hrc, fun U hU hW => ⟨rfl, by rw [hU]; exact hPm, va_K.moved hW.alike C.1.2.2.2.2.2.1, ⟨fun i i' p p' h1 h2 h3 => by have := I.2.1.1 _ _ p p' (hDm i p h1) (hDm i' p' h2) h3; omega, fun _ _ _ => trivial⟩, mN.warm hW C.1.2.2.2.2.2.2.2.2⟩⟩ rfl hn I.2.2.2.1 hst (lv_room hrest) hd ⟨hk9, hs9⟩) kk
  have off : ∀ i x, (w1 ++ (wD (gW G a Lq) σ ++ w2))[i]? = some x → ¬ (w1.length ≤ i ∧ i < w1.length + (wD (gW G a Lq) σ).length) → H1[x.1]? = H[x.1]? := by
    intro i x hx hi
    refine hk1 x.1 (I.1 i x hx).lt ?_
    rintro ⟨k', hk', he⟩
    obtain ⟨j2, hj2, hw2⟩ := wD_at (G := gW G a Lq) hk' σ
    have := I.2.1.1 i _ x _ hx (hDm j2 _ hw2) he
    have hl2 := (List.getElem?_eq_some_iff.mp hw2).1
    omega
  refine va_P.app (fun i x hx => ?_) (va_P.app hP1 (fun i x hx => ?_))
  · have hi := (List.getElem?_eq_some_iff.mp hx).1
    have hx' : (w1 ++ (wD (gW G a Lq) σ ++ w2))[i]? = some x := by rw [List.getElem?_append_left hi]; exact hx
    exact (I.1 i x hx').kept (off i x hx' (by omega))
  · have hx' : (w1 ++ (wD (gW G a Lq) σ ++ w2))[w1.length + ((wD (gW G a Lq) σ).length + i)]? = some x := by
      rw [List.getElem?_append_right (by omega), Nat.add_sub_cancel_left, List.getElem?_append_right (by omega), Nat.add_sub_cancel_left]; exact hx
    exact (I.1 _ x hx').kept (off _ x hx' (by omega))
end LR
