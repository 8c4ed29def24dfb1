/-! states of ints: cell q's number k -/
abbrev mS : Type := Nat → Nat → Int32
def st2 (σ : mS) (q k : Nat) (v : Int32) : mS := fun q' k' => if q' = q ∧ k' = k then v else σ q' k'
theorem st2_q (σ : mS) (q k : Nat) (v : Int32) : st2 σ q k v q = upd (σ q) k v := by funext j; simp [st2, upd]
theorem st2_nq {σ : mS} {q q' k : Nat} {v : Int32} (h : q' ≠ q) : st2 σ q k v q' = σ q' := by funext j; simp [st2, h]
def cp2 (σ : mS) (qs qd n : Nat) : mS := fun q' k' => if q' = qd ∧ k' < n then σ qs k' else σ q' k'
theorem cp2_nq {σ : mS} {qs qd q' n : Nat} (h : q' ≠ qd) : cp2 σ qs qd n q' = σ q' := by funext j; simp [cp2, h]
def ap {α β : Type} (f : α → β) (x : α) : β := f x
/-! the joint world: kind and length of each cell -/
def wKd : List (Nat × Nat) := [(8, 5), (4, 4), (0, 8), (0, 8), (0, 8), (5, 5), (0, 30), (0, 30), (0, 30), (6, 3), (0, 4), (1, 4), (0, 32), (2, 3), (7, 15), (0, 24), (0, 24), (0, 24), (0, 24), (0, 4), (0, 4), (3, 8), (0, 4), (1, 8), (0, 8), (1, 8), (0, 8), (7, 15), (0, 24), (0, 24), (0, 24), (0, 24), (0, 4), (0, 4), (3, 8), (0, 4), (1, 8), (0, 8), (1, 8), (0, 8), (7, 15), (0, 24), (0, 24), (0, 24), (0, 24), (0, 4), (0, 4), (3, 8), (0, 4), (1, 8), (0, 8), (1, 8), (0, 8), (9, 34), (0, 8), (1, 8), (1, 8), (0, 4), (0, 32), (1, 4), (0, 3), (0, 72), (0, 72), (0, 72), (0, 72), (0, 12), (0, 3), (0, 3), (1, 3), (0, 3), (0, 3), (0, 3), (0, 12), (1, 3), (0, 3), (0, 3), (0, 12), (1, 24), (0, 24), (1, 24), (0, 24), (0, 30), (0, 30), (0, 30), (0, 9)]
def wK (q : Nat) : Nat := (wKd.getD q (9999, 0)).1
def wN (q : Nat) : Nat := (wKd.getD q (9999, 0)).2
def oV (ci : Nat) (a : Nat → Nat) (q : Nat) (f : Nat → Int32) : List Value := match ci with
  | 0 => [.int (f 0), .int (f 1), .int (f 2), .ref (a (q + 1)), .ref (a (q + 2)), .ref (a (q + 3)), .ref (a (q + 4)), .ref (a (q + 5))]
  | 1 => [.ref (a (q + 1)), .ref (a (q + 2)), .ref (a (q + 3)), .ref (a (q + 4))]
  | 2 => [.ref (a (q + 1)), .ref (a (q + 2)), .ref (a (q + 3)), .int (f 3), .int (f 4)]
  | 3 => [.ref (a (q + 1)), .ref (a (q + 2)), .ref (a (q + 3))]
  | 4 => [.int (f 0), .ref (a (q + 1)), .ref (a (q + 2)), .ref (a (q + 3)), .ref (a (q + 4)), .int (f 5), .ref (a (q + 5)), .ref (a (q + 6)), .int (f 8), .ref (a (q + 7)), .int (f 10), .int (f 11), .int (f 12), .int (f 13), .int (f 14)]
  | 5 => [.ref (a (q + 1)), .ref (a (q + 9)), .ref (a (q + 13)), .int (f 3), .int (f 4)]
  | _ => [.int (f 0), .ref (a (q + 1)), .ref (a (q + 2)), .ref (a (q + 3)), .ref (a (q + 4)), .ref (a (q + 5)), .ref (a (q + 6)), .ref (a (q + 7)), .ref (a (q + 8)), .ref (a (q + 9)), .ref (a (q + 10)), .ref (a (q + 11)), .ref (a (q + 12)), .ref (a (q + 13)), .ref (a (q + 14)), .ref (a (q + 15)), .ref (a (q + 16)), .ref (a (q + 17)), .ref (a (q + 18)), .ref (a (q + 19)), .ref (a (q + 20)), .ref (a (q + 21)), .ref (a (q + 22)), .ref (a (q + 23)), .ref (a (q + 24)), .ref (a (q + 25)), .ref (a (q + 26)), .ref (a (q + 27)), .int (f 28), .ref (a (q + 28)), .ref (a (q + 29)), .ref (a (q + 30)), .int (f 32), .ref (a (q + 31))]
abbrev gT : Type := va_G × List (ClassId × FieldType) × (ClassId × ClassId × ClassId) × (Nat → Nat) × List Nat
def ad (G : gT) (q : Nat) : Nat := G.2.2.2.1 q
def gI (G : gT) : List Nat := G.2.2.2.2
def gY (G : gT) : List (ClassId × FieldType) := G.2.1
def gC (G : gT) : ClassId × ClassId × ClassId := G.2.2.1
def wE (c : ClassId × ClassId × ClassId) (a : Nat → Nat) (q : Nat) (f : Nat → Int32) : va_E := match wK q with
  | 0 => .inl (c.1, wN q, .inl f)
  | 1 => .inl (c.2.1, wN q, .inl f)
  | 2 => .inl (c.2.2, 3, .inr (.inr (.inr (.inr (fun j => some (a (14 + 13 * j)))))))
  | k + 3 => .inr (k, oV k a q f)
def wD (G : gT) (σ : mS) : va_W := (gI G).map (fun q => (ad G q, wE (gC G) (ad G) q (σ q)))
def mA (G : gT) : Nat → Prop := fun q => ∃ k, k ∈ gI G ∧ q = ad G k
def mP (G : gT) (σ : mS) (H : Heap) : Prop := va_P G.1 vwCl (wD G σ) H
def mQ (G : gT) (κ : Int32 → Option Value) (T : Int32 × mS) : Array Value → State → Outcome → State → Prop := fun _ st oc t => (oc = .returned (κ T.1) ∧ mP G T.2 t.heap) ∧ va_F (mA G) st t
def sI (v : Int32) : Nat := 14 + 13 * v.toNatClampNeg
def κI : Int32 → Option Value := fun v => some (.int v)
def κV : Int32 → Option Value := fun _ => none
def κR (G : gT) : Int32 → Option Value := fun v => some (va_rf (if v = -1 then none else some (ad G (sI v))))
def rm (d : Nat) : Room := { frames := d, cells := 0, slots := 0, locals := 40 * d }
def mN (U : State) : Prop := ∀ w ∈ lw_nest, va_Nw w U
theorem mN.same {u U : State} (h : u.vm = U.vm) (hN : mN u) : mN U := by
  intro w hw
  refine va_Nw.same ?_ h (hN w hw)
  exact (List.all_eq_true.mp (show lw_nest.all (fun w => w.onTables) = true by decide +kernel)) w hw
theorem mN.warm {s U : State} (hW : s.WarmedH U.vm) (hN : mN s) : mN U := by
  intro w hw
  have h := hN w hw
  obtain ⟨k, hk⟩ := List.getElem?_of_mem hw
  match k, hk with
  | 0, hk => cases hk; exact va_Nw.warmM hW h
  | 1, hk => cases hk; exact va_Nw.warmF hW h
  | 2, hk => cases hk; exact va_Nw.warmF hW h
  | 3, hk => cases hk; exact va_Nw.warmF hW h
  | 4, hk => cases hk; exact va_Nw.warmM hW h
  | 5, hk => cases hk; exact va_Nw.warmF hW h
  | 6, hk => cases hk; exact va_Nw.warmF hW h
  | 7, hk => cases hk; exact va_Nw.warmF hW h
  | 8, hk => cases hk; exact va_Nw.warmF hW h
  | 9, hk => cases hk; exact va_Nw.warmF hW h
  | 10, hk => cases hk; exact va_Nw.warmF hW h
  | 11, hk => cases hk; exact va_Nw.warmF hW h
  | 12, hk => cases hk; exact va_Nw.warmF hW h
  | 13, hk => cases hk; exact va_Nw.warmF hW h
  | 14, hk => cases hk; exact va_Nw.warmF hW h
  | 15, hk => cases hk; exact va_Nw.warmF hW h
  | 16, hk => cases hk; exact va_Nw.warmF hW h
  | 17, hk => cases hk; exact va_Nw.warmF hW h
  | 18, hk => cases hk; exact va_Nw.warmF hW h
  | 19, hk => cases hk; exact va_Nw.warmF hW h
  | 20, hk => cases hk; exact va_Nw.warmF hW h
  | 21, hk => cases hk; exact va_Nw.warmF hW h
  | 22, hk => cases hk; exact va_Nw.warmF hW h
  | 23, hk => cases hk; exact va_Nw.warmF hW h
  | 24, hk => cases hk; exact va_Nw.warmM hW h
  | 25, hk => cases hk; exact va_Nw.warmM hW h
  | 26, hk => cases hk; exact va_Nw.warmM hW h
  | 27, hk => cases hk; exact va_Nw.warmM hW h
  | k + 28, hk => exact absurd hk (by simp [lw_nest])
/-- a method's contract, by the state of ints: from σ the answer T.1 and the state T.2; nothing is made -/
def Ct (l : Launch) (G : gT) (y : MethodName) (cc : ByteArray) (nL : Nat) (ret : Option FieldType) (d : Nat) (avs : List Value) (κ : Int32 → Option Value) (σ : mS) (T : Int32 × mS) : Prop :=
  Met l y (Cond.code y cc nL ret :: lw_TB) (rm d) (va_Pc avs (fun U => mP G σ U.heap ∧ va_K G.1 vwCl (gY G) U ∧ va_D (fun _ => True) (wD G σ) ∧ mN U)) (mQ G κ T) 0 0 (mA G)
abbrev xT : Type := Program × Env × State × MethodId × Array Value × List Frame × Method × Code
/-- what holds all through a method's run -/
def Vc (G : gT) (X : xT) (own : String) (cc : ByteArray) (nL : Nat) (ret : Option FieldType) : Prop :=
  X.1.tables.exec = Jvm.exec ∧ X.2.2.2.2.2.2.2.code = cc ∧ X.2.2.2.2.2.2.2.maxLocals = nL ∧ X.2.2.1.vm.findClass own = some X.2.2.2.1.cls ∧ (∀ w ∈ lw_TB, w.before X.2.2.2.2.1 X.2.2.1 = true) ∧ va_K G.1 vwCl (gY G) X.2.2.1 ∧ X.2.2.2.2.2.2.1.sig.returnType = ret ∧ X.2.2.2.2.2.2.1.locks = false ∧ mN X.2.2.1
/-- the heap, the locals -/
def Vh (G : gT) (X : xT) (nL : Nat) (σ : mS) (lv : List (Nat × Value)) (H : Heap) (locs : List Loc) (ls : Array Slot) : Prop :=
  mP G σ H ∧ va_D (mA G) (wD G σ) ∧ va_S (mA G) X.2.2.1.heap H locs ∧ lv_has ls nL lv
/-- from this point the method comes to its end with T -/
def V (l : Launch) (G : gT) (X : xT) (own : String) (cc : ByteArray) (nL d : Nat) (ret : Option FieldType) (κ : Int32 → Option Value) (T : Int32 × mS) (σ : mS) (pc : Nat) (lv : List (Nat × Value)) (st : List Value) : Prop :=
  Vc G X own cc nL ret → ∀ (H : Heap) (locs : List Loc) (ls : Array Slot), Vh G X nL σ lv H locs ls →
    W X.1 l X.2.1 (rm d) X.2.2.1 X.2.2.2.1 X.2.2.2.2.1 X.2.2.2.2.2.1 X.2.2.2.2.2.2.1 X.2.2.2.2.2.2.2 H locs 0 0 (MQ X.2.2.2.2.2.1 (mQ G κ T) X.2.2.2.2.1 X.2.2.1 0 0 (mA G)) (F0 X.2.2.2.1 pc ls st)
/-! the world: looking up and setting by number -/
theorem wD_get (G : gT) (σ : mS) (i : Nat) : (wD G σ)[i]? = ((gI G)[i]?).map (fun q => (ad G q, wE (gC G) (ad G) q (σ q))) := by
  unfold wD; rw [List.getElem?_map]
theorem wD_at {G : gT} {q : Nat} (hq : q ∈ gI G) (σ : mS) : ∃ i : Nat, (gI G)[i]? = some q ∧ (wD G σ)[i]? = some (ad G q, wE (gC G) (ad G) q (σ q)) := by
  obtain ⟨i, hi⟩ := List.getElem?_of_mem hq
  exact ⟨i, hi, by rw [wD_get, hi]; rfl⟩
theorem wD_adr {G : gT} {σ σ' : mS} {A B : Nat → Prop} (h : va_D A (wD G σ)) (hB : ∀ q, A q → B q) : va_D B (wD G σ') := by
  have key : ∀ (i : Nat) (p : Nat × va_E), (wD G σ')[i]? = some p → ∃ p', (wD G σ)[i]? = some p' ∧ p'.1 = p.1 := by
    intro i p hp
    rw [wD_get] at hp ⊢
    cases hi : (gI G)[i]? with
    | none => rw [hi] at hp; cases hp
    | some q => rw [hi] at hp; cases hp; exact ⟨_, rfl, rfl⟩
  refine ⟨fun i j p q hp hq e => ?_, fun k q hk => ?_⟩
  · obtain ⟨p', a1, a2⟩ := key i p hp
    obtain ⟨q', b1, b2⟩ := key j q hq
    exact h.1 i j p' q' a1 b1 (by rw [a2, b2]; exact e)
  · obtain ⟨q', b1, b2⟩ := key k q hk
    rw [← b2]; exact hB _ (h.2 k q' b1)
theorem wD_mA {G : gT} {σ : mS} {A : Nat → Prop} (h : va_D A (wD G σ)) : va_D (mA G) (wD G σ) := by
  refine ⟨h.1, fun k q hk => ?_⟩
  rw [wD_get] at hk
  cases hi : (gI G)[k]? with
  | none => rw [hi] at hk; cases hk
  | some q' => rw [hi] at hk; cases hk; exact ⟨q', List.mem_of_getElem? hi, rfl⟩
theorem wD_set {G : gT} {σ σ' : mS} {A : Nat → Prop} {i q : Nat} {e : va_E} (hD : va_D A (wD G σ)) (hi : (gI G)[i]? = some q) (he : e = wE (gC G) (ad G) q (σ' q)) (ho : ∀ q', q' ≠ q → σ' q' = σ q') : (wD G σ).set i (ad G q, e) = wD G σ' := by
  apply List.ext_getElem?
  intro j
  have hlen : i < (wD G σ).length := by
    have h1 : (wD G σ)[i]? = some (ad G q, wE (gC G) (ad G) q (σ q)) := by rw [wD_get, hi]; rfl
    exact (List.getElem?_eq_some_iff.mp h1).1
  by_cases hj : i = j
  · subst hj
    rw [List.getElem?_set, if_pos rfl, if_pos hlen, wD_get, hi, he]; rfl
  · rw [List.getElem?_set, if_neg hj, wD_get, wD_get]
    cases hq : (gI G)[j]? with
    | none => rfl
    | some q' =>
      have hne : q' ≠ q := by
        intro e2
        subst e2
        exact hj (hD.1 i j _ _ (by rw [wD_get, hi]; rfl) (by rw [wD_get, hq]; rfl) rfl)
      show some (ad G q', wE (gC G) (ad G) q' (σ q')) = some (ad G q', wE (gC G) (ad G) q' (σ' q'))
      rw [ho q' hne]
theorem wE_i {c : ClassId × ClassId × ClassId} {a : Nat → Nat} {q n : Nat} {f : Nat → Int32} (h : wK q = 0) (hn : wN q = n) : wE c a q f = .inl (c.1, n, .inl f) := by
  subst hn; unfold wE; rw [h]
theorem wE_z {c : ClassId × ClassId × ClassId} {a : Nat → Nat} {q n : Nat} {f : Nat → Int32} (h : wK q = 1) (hn : wN q = n) : wE c a q f = .inl (c.2.1, n, .inl f) := by
  subst hn; unfold wE; rw [h]
theorem wE_s {c : ClassId × ClassId × ClassId} {a : Nat → Nat} {q : Nat} {f : Nat → Int32} (h : wK q = 2) : wE c a q f = .inl (c.2.2, 3, .inr (.inr (.inr (.inr (fun j => some (a (14 + 13 * j))))))) := by
  unfold wE; rw [h]
theorem wE_o {c : ClassId × ClassId × ClassId} {a : Nat → Nat} {q ci : Nat} {f : Nat → Int32} (h : wK q = ci + 3) : wE c a q f = .inr (ci, oV ci a q f) := by
  unfold wE; rw [h]
theorem Ct.ofV {l : Launch} {G : gT} {y : MethodName} {own : String} {cc : ByteArray} {nL d : Nat} {ret : Option FieldType} {avs : List Value} {κ : Int32 → Option Value} {σ : mS} {T : Int32 × mS} (lv : List (Nat × Value)) (hown : y.cls = own) (hy : plainName y.cls = true) (hn : (lg_sl avs).length ≤ nL) (hlv : lv_args 0 avs = lv) (h : ∀ X : xT, V l G X own cc nL d ret κ T σ 0 lv []) : Ct l G y cc nL ret d avs κ σ T := by
  subst hown
  refine Met.ofW (cc := cc) (maxL := nL) (ret := ret) hy rfl ?_
  intro p e s m args below meth c s₁ B hml hv
  obtain ⟨rfl, hP, hK, hD, hN⟩ := hv
  have hts := atoms_spec (ws := Cond.code y cc nL ret :: lw_TB) B.pre
  have hown : s.vm.findClass y.cls = some m.cls := findClass_of_methodNamed B.named
  have hl := lv_entry avs hn
  rw [hlv] at hl
  rw [lg_entry_eq]
  exact h (p, e, s, m, avs.toArray, below, meth, c) ⟨B.exec, B.bytes, hml, hown, fun w hw => hts w (List.mem_cons_of_mem _ hw), hK, B.returns, B.notSynchronized, hN⟩ s.heap [] _ ⟨hP, wD_mA hD, va_S.rf, hl⟩

section VR
variable {l : Launch} {G : gT} {X : xT} {own : String} {cc : ByteArray} {nL d : Nat} {ret : Option FieldType} {κ : Int32 → Option Value} {T T1 T2 : Int32 × mS} {σ : mS} {pc : Nat} {lv : List (Nat × Value)} {st : List Value}
theorem Viconst {n : Int} (hd : decode cc pc = .ok (.iconst n, 1)) (v : Int32) (hv : Int32.ofInt n = v) (pc' : Nat) (hp : pc' = pc + 1) (k : V l G X own cc nL d ret κ T σ pc' lv (.int v :: st)) : V l G X own cc nL d ret κ T σ pc lv (st) := by
  subst hp
  intro C H locs ls I
  exact lv_iconst C.1 C.2.1 hd hv (k C H locs ls I)
theorem Vbipush {n : Int} (hd : decode cc pc = .ok (.bipush n, 2)) (v : Int32) (hv : (Int8.ofInt n).toInt32 = v) (pc' : Nat) (hp : pc' = pc + 2) (k : V l G X own cc nL d ret κ T σ pc' lv (.int v :: st)) : V l G X own cc nL d ret κ T σ pc lv (st) := by
  subst hp
  intro C H locs ls I
  exact lv_bipush C.1 C.2.1 hd hv (k C H locs ls I)
theorem Vsipush {n : Int} (hd : decode cc pc = .ok (.sipush n, 3)) (v : Int32) (hv : (Int16.ofInt n).toInt32 = v) (pc' : Nat) (hp : pc' = pc + 3) (k : V l G X own cc nL d ret κ T σ pc' lv (.int v :: st)) : V l G X own cc nL d ret κ T σ pc lv (st) := by
  subst hp
  intro C H locs ls I
  exact lv_sipush C.1 C.2.1 hd hv (k C H locs ls I)
theorem Vldc {idx : Nat} (hd : decode cc pc = .ok (.ldc idx, 2)) (v : Int32) (hw : Cond.constant own idx v ∈ lw_TB) (pc' : Nat) (hp : pc' = pc + 2) (k : V l G X own cc nL d ret κ T σ pc' lv (.int v :: st)) : V l G X own cc nL d ret κ T σ pc lv (st) := by
  subst hp
  intro C H locs ls I
  exact lv_ldc C.1 C.2.1 C.2.2.2.1 (C.2.2.2.2.1 _ hw) hd (k C H locs ls I)
theorem Vnull (hd : decode cc pc = .ok (.aconst_null, 1)) (pc' : Nat) (hp : pc' = pc + 1) (k : V l G X own cc nL d ret κ T σ pc' lv (.null :: st)) : V l G X own cc nL d ret κ T σ pc lv (st) := by
  subst hp
  intro C H locs ls I
  exact lv_null C.1 C.2.1 hd (k C H locs ls I)
theorem Vload_n {i : Fin 4} {x : Int32} (hd : decode cc pc = .ok (.iload_n i, 1)) (j : Nat) (hj : lv[j]? = some ((i : Nat), .int x)) (pc' : Nat) (hp : pc' = pc + 1) (k : V l G X own cc nL d ret κ T σ pc' lv (.int x :: st)) : V l G X own cc nL d ret κ T σ pc lv (st) := by
  subst hp
  intro C H locs ls I
  exact lv_iload_n C.1 C.2.1 hd rfl (lv_at I.2.2.2 j hj) (k C H locs ls I)
theorem Vload {i : Nat} {x : Int32} (hd : decode cc pc = .ok (.iload i, 2)) (j : Nat) (hj : lv[j]? = some (i, .int x)) (pc' : Nat) (hp : pc' = pc + 2) (k : V l G X own cc nL d ret κ T σ pc' lv (.int x :: st)) : V l G X own cc nL d ret κ T σ pc lv (st) := by
  subst hp
  intro C H locs ls I
  exact lv_iload C.1 C.2.1 hd (lv_at I.2.2.2 j hj) (k C H locs ls I)
theorem Vaload_n {i : Fin 4} {x : Nat} (hd : decode cc pc = .ok (.aload_n i, 1)) (j : Nat) (hj : lv[j]? = some ((i : Nat), .ref x)) (pc' : Nat) (hp : pc' = pc + 1) (k : V l G X own cc nL d ret κ T σ pc' lv (.ref x :: st)) : V l G X own cc nL d ret κ T σ pc lv (st) := by
  subst hp
  intro C H locs ls I
  exact lv_aload_n C.1 C.2.1 hd rfl (lv_at I.2.2.2 j hj) (k C H locs ls I)
theorem Vaload {i : Nat} {x : Nat} (hd : decode cc pc = .ok (.aload i, 2)) (j : Nat) (hj : lv[j]? = some (i, .ref x)) (pc' : Nat) (hp : pc' = pc + 2) (k : V l G X own cc nL d ret κ T σ pc' lv (.ref x :: st)) : V l G X own cc nL d ret κ T σ pc lv (st) := by
  subst hp
  intro C H locs ls I
  exact lv_aload C.1 C.2.1 hd (lv_at I.2.2.2 j hj) (k C H locs ls I)
theorem Vaload_nN {i : Fin 4} (hd : decode cc pc = .ok (.aload_n i, 1)) (j : Nat) (hj : lv[j]? = some ((i : Nat), .null)) (pc' : Nat) (hp : pc' = pc + 1) (k : V l G X own cc nL d ret κ T σ pc' lv (.null :: st)) : V l G X own cc nL d ret κ T σ pc lv (st) := by
  subst hp
  intro C H locs ls I
  exact lv_aload_nN C.1 C.2.1 hd rfl (lv_at I.2.2.2 j hj) (k C H locs ls I)
theorem ValoadN {i : Nat} (hd : decode cc pc = .ok (.aload i, 2)) (j : Nat) (hj : lv[j]? = some (i, .null)) (pc' : Nat) (hp : pc' = pc + 2) (k : V l G X own cc nL d ret κ T σ pc' lv (.null :: st)) : V l G X own cc nL d ret κ T σ pc lv (st) := by
  subst hp
  intro C H locs ls I
  exact lv_aloadN C.1 C.2.1 hd (lv_at I.2.2.2 j hj) (k C H locs ls I)
theorem Vstore_n {i : Fin 4} {x : Int32} (hd : decode cc pc = .ok (.istore_n i, 1)) (lv' : List (Nat × Value)) (pc' : Nat) (hp : pc' = pc + 1) (hn : (i : Nat) < nL) (hl : ((i : Nat), .int x) :: lv.filter (fun q => !(q.1 == (i : Nat)) && !(q.1 + 1 == (i : Nat) && q.2.category == 2)) = lv') (k : V l G X own cc nL d ret κ T σ pc' lv' st) : V l G X own cc nL d ret κ T σ pc lv (.int x :: st) := by
  subst hp
  intro C H locs ls I
  exact lv_istore_n C.1 C.2.1 hd rfl I.2.2.2 hn hl (fun ls1 h1 => k C H locs ls1 ⟨I.1, I.2.1, I.2.2.1, h1⟩)
theorem Vstore {i : Nat} {x : Int32} (hd : decode cc pc = .ok (.istore i, 2)) (lv' : List (Nat × Value)) (pc' : Nat) (hp : pc' = pc + 2) (hn : (i : Nat) < nL) (hl : ((i : Nat), .int x) :: lv.filter (fun q => !(q.1 == (i : Nat)) && !(q.1 + 1 == (i : Nat) && q.2.category == 2)) = lv') (k : V l G X own cc nL d ret κ T σ pc' lv' st) : V l G X own cc nL d ret κ T σ pc lv (.int x :: st) := by
  subst hp
  intro C H locs ls I
  exact lv_istore C.1 C.2.1 hd I.2.2.2 hn hl (fun ls1 h1 => k C H locs ls1 ⟨I.1, I.2.1, I.2.2.1, h1⟩)
theorem Vastore_n {i : Fin 4} {x : Nat} (hd : decode cc pc = .ok (.astore_n i, 1)) (lv' : List (Nat × Value)) (pc' : Nat) (hp : pc' = pc + 1) (hn : (i : Nat) < nL) (hl : ((i : Nat), .ref x) :: lv.filter (fun q => !(q.1 == (i : Nat)) && !(q.1 + 1 == (i : Nat) && q.2.category == 2)) = lv') (k : V l G X own cc nL d ret κ T σ pc' lv' st) : V l G X own cc nL d ret κ T σ pc lv (.ref x :: st) := by
  subst hp
  intro C H locs ls I
  exact lv_astore_n C.1 C.2.1 hd rfl I.2.2.2 hn hl (fun ls1 h1 => k C H locs ls1 ⟨I.1, I.2.1, I.2.2.1, h1⟩)
theorem Vastore {i : Nat} {x : Nat} (hd : decode cc pc = .ok (.astore i, 2)) (lv' : List (Nat × Value)) (pc' : Nat) (hp : pc' = pc + 2) (hn : (i : Nat) < nL) (hl : ((i : Nat), .ref x) :: lv.filter (fun q => !(q.1 == (i : Nat)) && !(q.1 + 1 == (i : Nat) && q.2.category == 2)) = lv') (k : V l G X own cc nL d ret κ T σ pc' lv' st) : V l G X own cc nL d ret κ T σ pc lv (.ref x :: st) := by
  subst hp
  intro C H locs ls I
  exact lv_astore C.1 C.2.1 hd I.2.2.2 hn hl (fun ls1 h1 => k C H locs ls1 ⟨I.1, I.2.1, I.2.2.1, h1⟩)
theorem Vastore_nN {i : Fin 4} (hd : decode cc pc = .ok (.astore_n i, 1)) (lv' : List (Nat × Value)) (pc' : Nat) (hp : pc' = pc + 1) (hn : (i : Nat) < nL) (hl : ((i : Nat), .null) :: lv.filter (fun q => !(q.1 == (i : Nat)) && !(q.1 + 1 == (i : Nat) && q.2.category == 2)) = lv') (k : V l G X own cc nL d ret κ T σ pc' lv' st) : V l G X own cc nL d ret κ T σ pc lv (.null :: st) := by
  subst hp
  intro C H locs ls I
  exact lv_astore_nN C.1 C.2.1 hd rfl I.2.2.2 hn hl (fun ls1 h1 => k C H locs ls1 ⟨I.1, I.2.1, I.2.2.1, h1⟩)
theorem VastoreN {i : Nat} (hd : decode cc pc = .ok (.astore i, 2)) (lv' : List (Nat × Value)) (pc' : Nat) (hp : pc' = pc + 2) (hn : (i : Nat) < nL) (hl : ((i : Nat), .null) :: lv.filter (fun q => !(q.1 == (i : Nat)) && !(q.1 + 1 == (i : Nat) && q.2.category == 2)) = lv') (k : V l G X own cc nL d ret κ T σ pc' lv' st) : V l G X own cc nL d ret κ T σ pc lv (.null :: st) := by
  subst hp
  intro C H locs ls I
  exact lv_astoreN C.1 C.2.1 hd I.2.2.2 hn hl (fun ls1 h1 => k C H locs ls1 ⟨I.1, I.2.1, I.2.2.1, h1⟩)
theorem Viinc {i : Nat} {n : Int} {x : Int32} (hd : decode cc pc = .ok (.iinc i n, 3)) (v : Int32) (j : Nat) (lv' : List (Nat × Value)) (pc' : Nat) (hp : pc' = pc + 3) (hk : lv[j]? = some (i, .int x)) (hv : x + Int32.ofInt n = v) (hn : i < nL) (hl : (i, Value.int v) :: lv.filter (fun q => !(q.1 == i) && !(q.1 + 1 == i && q.2.category == 2)) = lv') (k : V l G X own cc nL d ret κ T σ pc' lv' st) : V l G X own cc nL d ret κ T σ pc lv st := by
  subst hp
  intro C H locs ls I
  exact lv_iinc C.1 C.2.1 hd I.2.2.2 hk hv hn hl (fun ls1 h1 => k C H locs ls1 ⟨I.1, I.2.1, I.2.2.1, h1⟩)
theorem Viadd {x y : Int32} (hd : decode cc pc = .ok (.iadd, 1)) (pc' : Nat) (hp : pc' = pc + 1) (k : V l G X own cc nL d ret κ T σ pc' lv (.int (x + y) :: st)) : V l G X own cc nL d ret κ T σ pc lv (.int y :: .int x :: st) := by
  subst hp
  intro C H locs ls I
  exact lv_iadd C.1 C.2.1 hd (k C H locs ls I)
theorem Visub {x y : Int32} (hd : decode cc pc = .ok (.isub, 1)) (pc' : Nat) (hp : pc' = pc + 1) (k : V l G X own cc nL d ret κ T σ pc' lv (.int (x - y) :: st)) : V l G X own cc nL d ret κ T σ pc lv (.int y :: .int x :: st) := by
  subst hp
  intro C H locs ls I
  exact lv_isub C.1 C.2.1 hd (k C H locs ls I)
theorem Vimul {x y : Int32} (hd : decode cc pc = .ok (.imul, 1)) (pc' : Nat) (hp : pc' = pc + 1) (k : V l G X own cc nL d ret κ T σ pc' lv (.int (x * y) :: st)) : V l G X own cc nL d ret κ T σ pc lv (.int y :: .int x :: st) := by
  subst hp
  intro C H locs ls I
  exact lv_imul C.1 C.2.1 hd (k C H locs ls I)
theorem Viand {x y : Int32} (hd : decode cc pc = .ok (.iand, 1)) (pc' : Nat) (hp : pc' = pc + 1) (k : V l G X own cc nL d ret κ T σ pc' lv (.int (x &&& y) :: st)) : V l G X own cc nL d ret κ T σ pc lv (.int y :: .int x :: st) := by
  subst hp
  intro C H locs ls I
  exact lv_iand C.1 C.2.1 hd (k C H locs ls I)
theorem Vidiv {x y : Int32} (hd : decode cc pc = .ok (.idiv, 1)) (hne : ¬ y = 0) (pc' : Nat) (hp : pc' = pc + 1) (k : V l G X own cc nL d ret κ T σ pc' lv (.int (x / y) :: st)) : V l G X own cc nL d ret κ T σ pc lv (.int y :: .int x :: st) := by
  subst hp
  intro C H locs ls I
  exact lv_idiv C.1 C.2.1 hd hne (k C H locs ls I)
theorem Virem {x y : Int32} (hd : decode cc pc = .ok (.irem, 1)) (hne : ¬ y = 0) (pc' : Nat) (hp : pc' = pc + 1) (k : V l G X own cc nL d ret κ T σ pc' lv (.int (x - x / y * y) :: st)) : V l G X own cc nL d ret κ T σ pc lv (.int y :: .int x :: st) := by
  subst hp
  intro C H locs ls I
  exact lv_irem C.1 C.2.1 hd hne (k C H locs ls I)
theorem Viushr {x y : Int32} (hd : decode cc pc = .ok (.iushr, 1)) (pc' : Nat) (hp : pc' = pc + 1) (k : V l G X own cc nL d ret κ T σ pc' lv (.int ((x.toUInt32 >>> (y.toUInt32 &&& Int32.toUInt32 31)).toInt32) :: st)) : V l G X own cc nL d ret κ T σ pc lv (.int y :: .int x :: st) := by
  subst hp
  intro C H locs ls I
  exact lv_iushr C.1 C.2.1 hd rfl (k C H locs ls I)
theorem Vdupi {x : Int32} (hd : decode cc pc = .ok (.dup, 1)) (pc' : Nat) (hp : pc' = pc + 1) (k : V l G X own cc nL d ret κ T σ pc' lv (.int x :: .int x :: st)) : V l G X own cc nL d ret κ T σ pc lv (.int x :: st) := by
  subst hp
  intro C H locs ls I
  exact lv_dup C.1 C.2.1 hd rfl (k C H locs ls I)
theorem Vdupa {x : Nat} (hd : decode cc pc = .ok (.dup, 1)) (pc' : Nat) (hp : pc' = pc + 1) (k : V l G X own cc nL d ret κ T σ pc' lv (.ref x :: .ref x :: st)) : V l G X own cc nL d ret κ T σ pc lv (.ref x :: st) := by
  subst hp
  intro C H locs ls I
  exact lv_dup C.1 C.2.1 hd rfl (k C H locs ls I)
theorem Vdup2 {x : Nat} {i : Int32} (hd : decode cc pc = .ok (.dup2, 1)) (pc' : Nat) (hp : pc' = pc + 1) (k : V l G X own cc nL d ret κ T σ pc' lv (.int i :: .ref x :: .int i :: .ref x :: st)) : V l G X own cc nL d ret κ T σ pc lv (.int i :: .ref x :: st) := by
  subst hp
  intro C H locs ls I
  exact lv_dup2_11 C.1 C.2.1 hd rfl rfl (k C H locs ls I)
theorem Vifeq {x : Int32} {off : Int} {α : Type} (g : α → Int32 × mS) {a1 a2 : α} (hd : decode cc pc = .ok (.ifCond .eq off, 3)) (tgt pc' : Nat) (ht : (pc : Int) + off = (tgt : Int)) (hp : pc' = pc + 3) (kt : x = 0 → V l G X own cc nL d ret κ (g a1) σ tgt lv st) (kf : ¬ x = 0 → V l G X own cc nL d ret κ (g a2) σ pc' lv st) : V l G X own cc nL d ret κ (g (if x = 0 then a1 else a2)) σ pc lv (.int x :: st) := by
  subst hp
  intro C H locs ls I
  refine lv_if_eq C.1 C.2.1 hd ht (fun h => ?_) (fun h => ?_)
  · rw [if_pos h]; exact kt h C H locs ls I
  · rw [if_neg h]; exact kf h C H locs ls I
theorem Kifeqt {x : Int32} {off : Int} (hd : decode cc pc = .ok (.ifCond .eq off, 3)) (tgt : Nat) (ht : (pc : Int) + off = (tgt : Int)) (hc : x = 0) (k : V l G X own cc nL d ret κ T σ tgt lv st) : V l G X own cc nL d ret κ T σ pc lv (.int x :: st) := by
  intro C H locs ls I
  exact lv_if_eq C.1 C.2.1 hd ht (fun _ => k C H locs ls I) (fun h => False.elim (h hc))
theorem Kifeqf {x : Int32} {off : Int} (hd : decode cc pc = .ok (.ifCond .eq off, 3)) (pc' : Nat) (hc : ¬ x = 0) (hp : pc' = pc + 3) (tgt : Nat) (ht : (pc : Int) + off = (tgt : Int)) (k : V l G X own cc nL d ret κ T σ pc' lv st) : V l G X own cc nL d ret κ T σ pc lv (.int x :: st) := by
  subst hp
  intro C H locs ls I
  exact lv_if_eq C.1 C.2.1 hd ht (fun h => False.elim (hc h)) (fun _ => k C H locs ls I)
theorem Vifne {x : Int32} {off : Int} {α : Type} (g : α → Int32 × mS) {a1 a2 : α} (hd : decode cc pc = .ok (.ifCond .ne off, 3)) (tgt pc' : Nat) (ht : (pc : Int) + off = (tgt : Int)) (hp : pc' = pc + 3) (kt : ¬ x = 0 → V l G X own cc nL d ret κ (g a2) σ tgt lv st) (kf : x = 0 → V l G X own cc nL d ret κ (g a1) σ pc' lv st) : V l G X own cc nL d ret κ (g (if x = 0 then a1 else a2)) σ pc lv (.int x :: st) := by
  subst hp
  intro C H locs ls I
  refine lv_if_ne C.1 C.2.1 hd ht (fun h => ?_) (fun h => ?_)
  · rw [if_neg h]; exact kt h C H locs ls I
  · rw [if_pos h]; exact kf h C H locs ls I
theorem Kifnet {x : Int32} {off : Int} (hd : decode cc pc = .ok (.ifCond .ne off, 3)) (tgt : Nat) (ht : (pc : Int) + off = (tgt : Int)) (hc : ¬ x = 0) (k : V l G X own cc nL d ret κ T σ tgt lv st) : V l G X own cc nL d ret κ T σ pc lv (.int x :: st) := by
  intro C H locs ls I
  exact lv_if_ne C.1 C.2.1 hd ht (fun _ => k C H locs ls I) (fun h => False.elim (hc h))
theorem Kifnef {x : Int32} {off : Int} (hd : decode cc pc = .ok (.ifCond .ne off, 3)) (pc' : Nat) (hc : x = 0) (hp : pc' = pc + 3) (tgt : Nat) (ht : (pc : Int) + off = (tgt : Int)) (k : V l G X own cc nL d ret κ T σ pc' lv st) : V l G X own cc nL d ret κ T σ pc lv (.int x :: st) := by
  subst hp
  intro C H locs ls I
  exact lv_if_ne C.1 C.2.1 hd ht (fun h => False.elim (h hc)) (fun _ => k C H locs ls I)
theorem Viflt {x : Int32} {off : Int} {α : Type} (g : α → Int32 × mS) {a1 a2 : α} (hd : decode cc pc = .ok (.ifCond .lt off, 3)) (tgt pc' : Nat) (ht : (pc : Int) + off = (tgt : Int)) (hp : pc' = pc + 3) (kt : x < 0 → V l G X own cc nL d ret κ (g a1) σ tgt lv st) (kf : ¬ x < 0 → V l G X own cc nL d ret κ (g a2) σ pc' lv st) : V l G X own cc nL d ret κ (g (if x < 0 then a1 else a2)) σ pc lv (.int x :: st) := by
  subst hp
  intro C H locs ls I
  refine lv_if_lt C.1 C.2.1 hd ht (fun h => ?_) (fun h => ?_)
  · rw [if_pos h]; exact kt h C H locs ls I
  · rw [if_neg h]; exact kf h C H locs ls I
theorem Kifltt {x : Int32} {off : Int} (hd : decode cc pc = .ok (.ifCond .lt off, 3)) (tgt : Nat) (ht : (pc : Int) + off = (tgt : Int)) (hc : x < 0) (k : V l G X own cc nL d ret κ T σ tgt lv st) : V l G X own cc nL d ret κ T σ pc lv (.int x :: st) := by
  intro C H locs ls I
  exact lv_if_lt C.1 C.2.1 hd ht (fun _ => k C H locs ls I) (fun h => False.elim (h hc))
theorem Kifltf {x : Int32} {off : Int} (hd : decode cc pc = .ok (.ifCond .lt off, 3)) (pc' : Nat) (hc : ¬ x < 0) (hp : pc' = pc + 3) (tgt : Nat) (ht : (pc : Int) + off = (tgt : Int)) (k : V l G X own cc nL d ret κ T σ pc' lv st) : V l G X own cc nL d ret κ T σ pc lv (.int x :: st) := by
  subst hp
  intro C H locs ls I
  exact lv_if_lt C.1 C.2.1 hd ht (fun h => False.elim (hc h)) (fun _ => k C H locs ls I)
theorem Vifge {x : Int32} {off : Int} {α : Type} (g : α → Int32 × mS) {a1 a2 : α} (hd : decode cc pc = .ok (.ifCond .ge off, 3)) (tgt pc' : Nat) (ht : (pc : Int) + off = (tgt : Int)) (hp : pc' = pc + 3) (kt : 0 ≤ x → V l G X own cc nL d ret κ (g a1) σ tgt lv st) (kf : ¬ 0 ≤ x → V l G X own cc nL d ret κ (g a2) σ pc' lv st) : V l G X own cc nL d ret κ (g (if 0 ≤ x then a1 else a2)) σ pc lv (.int x :: st) := by
  subst hp
  intro C H locs ls I
  refine lv_if_ge C.1 C.2.1 hd ht (fun h => ?_) (fun h => ?_)
  · rw [if_pos h]; exact kt h C H locs ls I
  · rw [if_neg h]; exact kf h C H locs ls I
theorem Kifget {x : Int32} {off : Int} (hd : decode cc pc = .ok (.ifCond .ge off, 3)) (tgt : Nat) (ht : (pc : Int) + off = (tgt : Int)) (hc : 0 ≤ x) (k : V l G X own cc nL d ret κ T σ tgt lv st) : V l G X own cc nL d ret κ T σ pc lv (.int x :: st) := by
  intro C H locs ls I
  exact lv_if_ge C.1 C.2.1 hd ht (fun _ => k C H locs ls I) (fun h => False.elim (h hc))
theorem Kifgef {x : Int32} {off : Int} (hd : decode cc pc = .ok (.ifCond .ge off, 3)) (pc' : Nat) (hc : ¬ 0 ≤ x) (hp : pc' = pc + 3) (tgt : Nat) (ht : (pc : Int) + off = (tgt : Int)) (k : V l G X own cc nL d ret κ T σ pc' lv st) : V l G X own cc nL d ret κ T σ pc lv (.int x :: st) := by
  subst hp
  intro C H locs ls I
  exact lv_if_ge C.1 C.2.1 hd ht (fun h => False.elim (hc h)) (fun _ => k C H locs ls I)
theorem Vifle {x : Int32} {off : Int} {α : Type} (g : α → Int32 × mS) {a1 a2 : α} (hd : decode cc pc = .ok (.ifCond .le off, 3)) (tgt pc' : Nat) (ht : (pc : Int) + off = (tgt : Int)) (hp : pc' = pc + 3) (kt : x ≤ 0 → V l G X own cc nL d ret κ (g a1) σ tgt lv st) (kf : ¬ x ≤ 0 → V l G X own cc nL d ret κ (g a2) σ pc' lv st) : V l G X own cc nL d ret κ (g (if x ≤ 0 then a1 else a2)) σ pc lv (.int x :: st) := by
  subst hp
  intro C H locs ls I
  refine lv_if_le C.1 C.2.1 hd ht (fun h => ?_) (fun h => ?_)
  · rw [if_pos h]; exact kt h C H locs ls I
  · rw [if_neg h]; exact kf h C H locs ls I
theorem Kiflet {x : Int32} {off : Int} (hd : decode cc pc = .ok (.ifCond .le off, 3)) (tgt : Nat) (ht : (pc : Int) + off = (tgt : Int)) (hc : x ≤ 0) (k : V l G X own cc nL d ret κ T σ tgt lv st) : V l G X own cc nL d ret κ T σ pc lv (.int x :: st) := by
  intro C H locs ls I
  exact lv_if_le C.1 C.2.1 hd ht (fun _ => k C H locs ls I) (fun h => False.elim (h hc))
theorem Kiflef {x : Int32} {off : Int} (hd : decode cc pc = .ok (.ifCond .le off, 3)) (pc' : Nat) (hc : ¬ x ≤ 0) (hp : pc' = pc + 3) (tgt : Nat) (ht : (pc : Int) + off = (tgt : Int)) (k : V l G X own cc nL d ret κ T σ pc' lv st) : V l G X own cc nL d ret κ T σ pc lv (.int x :: st) := by
  subst hp
  intro C H locs ls I
  exact lv_if_le C.1 C.2.1 hd ht (fun h => False.elim (hc h)) (fun _ => k C H locs ls I)
theorem Viceq {x y : Int32} {off : Int} {α : Type} (g : α → Int32 × mS) {a1 a2 : α} (hd : decode cc pc = .ok (.if_icmp .eq off, 3)) (tgt pc' : Nat) (ht : (pc : Int) + off = (tgt : Int)) (hp : pc' = pc + 3) (kt : x = y → V l G X own cc nL d ret κ (g a1) σ tgt lv st) (kf : ¬ x = y → V l G X own cc nL d ret κ (g a2) σ pc' lv st) : V l G X own cc nL d ret κ (g (if x = y then a1 else a2)) σ pc lv (.int y :: .int x :: st) := by
  subst hp
  intro C H locs ls I
  refine lv_icmp_eq C.1 C.2.1 hd ht (fun h => ?_) (fun h => ?_)
  · rw [if_pos h]; exact kt h C H locs ls I
  · rw [if_neg h]; exact kf h C H locs ls I
theorem Kiceqt {x y : Int32} {off : Int} (hd : decode cc pc = .ok (.if_icmp .eq off, 3)) (tgt : Nat) (ht : (pc : Int) + off = (tgt : Int)) (hc : x = y) (k : V l G X own cc nL d ret κ T σ tgt lv st) : V l G X own cc nL d ret κ T σ pc lv (.int y :: .int x :: st) := by
  intro C H locs ls I
  exact lv_icmp_eq C.1 C.2.1 hd ht (fun _ => k C H locs ls I) (fun h => False.elim (h hc))
theorem Kiceqf {x y : Int32} {off : Int} (hd : decode cc pc = .ok (.if_icmp .eq off, 3)) (pc' : Nat) (hc : ¬ x = y) (hp : pc' = pc + 3) (tgt : Nat) (ht : (pc : Int) + off = (tgt : Int)) (k : V l G X own cc nL d ret κ T σ pc' lv st) : V l G X own cc nL d ret κ T σ pc lv (.int y :: .int x :: st) := by
  subst hp
  intro C H locs ls I
  exact lv_icmp_eq C.1 C.2.1 hd ht (fun h => False.elim (hc h)) (fun _ => k C H locs ls I)
theorem Vicne {x y : Int32} {off : Int} {α : Type} (g : α → Int32 × mS) {a1 a2 : α} (hd : decode cc pc = .ok (.if_icmp .ne off, 3)) (tgt pc' : Nat) (ht : (pc : Int) + off = (tgt : Int)) (hp : pc' = pc + 3) (kt : ¬ x = y → V l G X own cc nL d ret κ (g a2) σ tgt lv st) (kf : x = y → V l G X own cc nL d ret κ (g a1) σ pc' lv st) : V l G X own cc nL d ret κ (g (if x = y then a1 else a2)) σ pc lv (.int y :: .int x :: st) := by
  subst hp
  intro C H locs ls I
  refine lv_icmp_ne C.1 C.2.1 hd ht (fun h => ?_) (fun h => ?_)
  · rw [if_neg h]; exact kt h C H locs ls I
  · rw [if_pos h]; exact kf h C H locs ls I
theorem Kicnet {x y : Int32} {off : Int} (hd : decode cc pc = .ok (.if_icmp .ne off, 3)) (tgt : Nat) (ht : (pc : Int) + off = (tgt : Int)) (hc : ¬ x = y) (k : V l G X own cc nL d ret κ T σ tgt lv st) : V l G X own cc nL d ret κ T σ pc lv (.int y :: .int x :: st) := by
  intro C H locs ls I
  exact lv_icmp_ne C.1 C.2.1 hd ht (fun _ => k C H locs ls I) (fun h => False.elim (hc h))
theorem Kicnef {x y : Int32} {off : Int} (hd : decode cc pc = .ok (.if_icmp .ne off, 3)) (pc' : Nat) (hc : x = y) (hp : pc' = pc + 3) (tgt : Nat) (ht : (pc : Int) + off = (tgt : Int)) (k : V l G X own cc nL d ret κ T σ pc' lv st) : V l G X own cc nL d ret κ T σ pc lv (.int y :: .int x :: st) := by
  subst hp
  intro C H locs ls I
  exact lv_icmp_ne C.1 C.2.1 hd ht (fun h => False.elim (h hc)) (fun _ => k C H locs ls I)
theorem Viclt {x y : Int32} {off : Int} {α : Type} (g : α → Int32 × mS) {a1 a2 : α} (hd : decode cc pc = .ok (.if_icmp .lt off, 3)) (tgt pc' : Nat) (ht : (pc : Int) + off = (tgt : Int)) (hp : pc' = pc + 3) (kt : x < y → V l G X own cc nL d ret κ (g a1) σ tgt lv st) (kf : ¬ x < y → V l G X own cc nL d ret κ (g a2) σ pc' lv st) : V l G X own cc nL d ret κ (g (if x < y then a1 else a2)) σ pc lv (.int y :: .int x :: st) := by
  subst hp
  intro C H locs ls I
  refine lv_icmp_lt C.1 C.2.1 hd ht (fun h => ?_) (fun h => ?_)
  · rw [if_pos h]; exact kt h C H locs ls I
  · rw [if_neg h]; exact kf h C H locs ls I
theorem Kicltt {x y : Int32} {off : Int} (hd : decode cc pc = .ok (.if_icmp .lt off, 3)) (tgt : Nat) (ht : (pc : Int) + off = (tgt : Int)) (hc : x < y) (k : V l G X own cc nL d ret κ T σ tgt lv st) : V l G X own cc nL d ret κ T σ pc lv (.int y :: .int x :: st) := by
  intro C H locs ls I
  exact lv_icmp_lt C.1 C.2.1 hd ht (fun _ => k C H locs ls I) (fun h => False.elim (h hc))
theorem Kicltf {x y : Int32} {off : Int} (hd : decode cc pc = .ok (.if_icmp .lt off, 3)) (pc' : Nat) (hc : ¬ x < y) (hp : pc' = pc + 3) (tgt : Nat) (ht : (pc : Int) + off = (tgt : Int)) (k : V l G X own cc nL d ret κ T σ pc' lv st) : V l G X own cc nL d ret κ T σ pc lv (.int y :: .int x :: st) := by
  subst hp
  intro C H locs ls I
  exact lv_icmp_lt C.1 C.2.1 hd ht (fun h => False.elim (hc h)) (fun _ => k C H locs ls I)
theorem Vicge {x y : Int32} {off : Int} {α : Type} (g : α → Int32 × mS) {a1 a2 : α} (hd : decode cc pc = .ok (.if_icmp .ge off, 3)) (tgt pc' : Nat) (ht : (pc : Int) + off = (tgt : Int)) (hp : pc' = pc + 3) (kt : y ≤ x → V l G X own cc nL d ret κ (g a1) σ tgt lv st) (kf : ¬ y ≤ x → V l G X own cc nL d ret κ (g a2) σ pc' lv st) : V l G X own cc nL d ret κ (g (if y ≤ x then a1 else a2)) σ pc lv (.int y :: .int x :: st) := by
  subst hp
  intro C H locs ls I
  refine lv_icmp_ge C.1 C.2.1 hd ht (fun h => ?_) (fun h => ?_)
  · rw [if_pos h]; exact kt h C H locs ls I
  · rw [if_neg h]; exact kf h C H locs ls I
theorem Kicget {x y : Int32} {off : Int} (hd : decode cc pc = .ok (.if_icmp .ge off, 3)) (tgt : Nat) (ht : (pc : Int) + off = (tgt : Int)) (hc : y ≤ x) (k : V l G X own cc nL d ret κ T σ tgt lv st) : V l G X own cc nL d ret κ T σ pc lv (.int y :: .int x :: st) := by
  intro C H locs ls I
  exact lv_icmp_ge C.1 C.2.1 hd ht (fun _ => k C H locs ls I) (fun h => False.elim (h hc))
theorem Kicgef {x y : Int32} {off : Int} (hd : decode cc pc = .ok (.if_icmp .ge off, 3)) (pc' : Nat) (hc : ¬ y ≤ x) (hp : pc' = pc + 3) (tgt : Nat) (ht : (pc : Int) + off = (tgt : Int)) (k : V l G X own cc nL d ret κ T σ pc' lv st) : V l G X own cc nL d ret κ T σ pc lv (.int y :: .int x :: st) := by
  subst hp
  intro C H locs ls I
  exact lv_icmp_ge C.1 C.2.1 hd ht (fun h => False.elim (hc h)) (fun _ => k C H locs ls I)
theorem Vicgt {x y : Int32} {off : Int} {α : Type} (g : α → Int32 × mS) {a1 a2 : α} (hd : decode cc pc = .ok (.if_icmp .gt off, 3)) (tgt pc' : Nat) (ht : (pc : Int) + off = (tgt : Int)) (hp : pc' = pc + 3) (kt : y < x → V l G X own cc nL d ret κ (g a1) σ tgt lv st) (kf : ¬ y < x → V l G X own cc nL d ret κ (g a2) σ pc' lv st) : V l G X own cc nL d ret κ (g (if y < x then a1 else a2)) σ pc lv (.int y :: .int x :: st) := by
  subst hp
  intro C H locs ls I
  refine lv_icmp_gt C.1 C.2.1 hd ht (fun h => ?_) (fun h => ?_)
  · rw [if_pos h]; exact kt h C H locs ls I
  · rw [if_neg h]; exact kf h C H locs ls I
theorem Kicgtt {x y : Int32} {off : Int} (hd : decode cc pc = .ok (.if_icmp .gt off, 3)) (tgt : Nat) (ht : (pc : Int) + off = (tgt : Int)) (hc : y < x) (k : V l G X own cc nL d ret κ T σ tgt lv st) : V l G X own cc nL d ret κ T σ pc lv (.int y :: .int x :: st) := by
  intro C H locs ls I
  exact lv_icmp_gt C.1 C.2.1 hd ht (fun _ => k C H locs ls I) (fun h => False.elim (h hc))
theorem Kicgtf {x y : Int32} {off : Int} (hd : decode cc pc = .ok (.if_icmp .gt off, 3)) (pc' : Nat) (hc : ¬ y < x) (hp : pc' = pc + 3) (tgt : Nat) (ht : (pc : Int) + off = (tgt : Int)) (k : V l G X own cc nL d ret κ T σ pc' lv st) : V l G X own cc nL d ret κ T σ pc lv (.int y :: .int x :: st) := by
  subst hp
  intro C H locs ls I
  exact lv_icmp_gt C.1 C.2.1 hd ht (fun h => False.elim (hc h)) (fun _ => k C H locs ls I)
theorem Vicle {x y : Int32} {off : Int} {α : Type} (g : α → Int32 × mS) {a1 a2 : α} (hd : decode cc pc = .ok (.if_icmp .le off, 3)) (tgt pc' : Nat) (ht : (pc : Int) + off = (tgt : Int)) (hp : pc' = pc + 3) (kt : x ≤ y → V l G X own cc nL d ret κ (g a1) σ tgt lv st) (kf : ¬ x ≤ y → V l G X own cc nL d ret κ (g a2) σ pc' lv st) : V l G X own cc nL d ret κ (g (if x ≤ y then a1 else a2)) σ pc lv (.int y :: .int x :: st) := by
  subst hp
  intro C H locs ls I
  refine lv_icmp_le C.1 C.2.1 hd ht (fun h => ?_) (fun h => ?_)
  · rw [if_pos h]; exact kt h C H locs ls I
  · rw [if_neg h]; exact kf h C H locs ls I
theorem Kiclet {x y : Int32} {off : Int} (hd : decode cc pc = .ok (.if_icmp .le off, 3)) (tgt : Nat) (ht : (pc : Int) + off = (tgt : Int)) (hc : x ≤ y) (k : V l G X own cc nL d ret κ T σ tgt lv st) : V l G X own cc nL d ret κ T σ pc lv (.int y :: .int x :: st) := by
  intro C H locs ls I
  exact lv_icmp_le C.1 C.2.1 hd ht (fun _ => k C H locs ls I) (fun h => False.elim (h hc))
theorem Kiclef {x y : Int32} {off : Int} (hd : decode cc pc = .ok (.if_icmp .le off, 3)) (pc' : Nat) (hc : ¬ x ≤ y) (hp : pc' = pc + 3) (tgt : Nat) (ht : (pc : Int) + off = (tgt : Int)) (k : V l G X own cc nL d ret κ T σ pc' lv st) : V l G X own cc nL d ret κ T σ pc lv (.int y :: .int x :: st) := by
  subst hp
  intro C H locs ls I
  exact lv_icmp_le C.1 C.2.1 hd ht (fun h => False.elim (hc h)) (fun _ => k C H locs ls I)
theorem Vgoto {off : Int} (hd : decode cc pc = .ok (.goto off, 3)) (tgt : Nat) (ht : (pc : Int) + off = (tgt : Int)) (k : V l G X own cc nL d ret κ T σ tgt lv st) : V l G X own cc nL d ret κ T σ pc lv st := by
  intro C H locs ls I
  exact lv_goto C.1 C.2.1 hd ht (k C H locs ls I)
theorem Vifnull {off : Int} {x : Nat} (hd : decode cc pc = .ok (.ifnull off, 3)) (pc' : Nat) (hp : pc' = pc + 3) (k : V l G X own cc nL d ret κ T σ pc' lv st) : V l G X own cc nL d ret κ T σ pc lv (.ref x :: st) := by
  subst hp
  intro C H locs ls I
  exact lv_ifnull C.1 C.2.1 hd (k C H locs ls I)
theorem VifnullN {off : Int} (hd : decode cc pc = .ok (.ifnull off, 3)) (tgt : Nat) (ht : (pc : Int) + off = (tgt : Int)) (k : V l G X own cc nL d ret κ T σ tgt lv st) : V l G X own cc nL d ret κ T σ pc lv (.null :: st) := by
  intro C H locs ls I
  exact lv_ifnullN C.1 C.2.1 hd ht (k C H locs ls I)
theorem Vifnn {off : Int} {x : Nat} (hd : decode cc pc = .ok (.ifnonnull off, 3)) (tgt : Nat) (ht : (pc : Int) + off = (tgt : Int)) (k : V l G X own cc nL d ret κ T σ tgt lv st) : V l G X own cc nL d ret κ T σ pc lv (.ref x :: st) := by
  intro C H locs ls I
  exact lv_ifnonnull C.1 C.2.1 hd ht (k C H locs ls I)
theorem VifnnN {off : Int} (hd : decode cc pc = .ok (.ifnonnull off, 3)) (pc' : Nat) (hp : pc' = pc + 3) (k : V l G X own cc nL d ret κ T σ pc' lv st) : V l G X own cc nL d ret κ T σ pc lv (.null :: st) := by
  subst hp
  intro C H locs ls I
  exact lv_ifnonnullN C.1 C.2.1 hd (k C H locs ls I)
theorem Vswin {dflt lo hi : Int} {offs : Array Int} {len : Nat} {x : Int32} {off : Int} (hd : decode cc pc = .ok (.tableswitch dflt lo hi offs, len)) (tgt : Nat) (h1 : ¬ x.toInt < lo) (h2 : ¬ hi < x.toInt) (ho : offs[(x.toInt - lo).toNat]? = some off) (ht : (pc : Int) + off = (tgt : Int)) (k : V l G X own cc nL d ret κ T σ tgt lv st) : V l G X own cc nL d ret κ T σ pc lv (.int x :: st) := by
  intro C H locs ls I
  exact lv_tableIn C.1 C.2.1 hd h1 h2 ho ht (k C H locs ls I)
theorem Vswout {dflt lo hi : Int} {offs : Array Int} {len : Nat} {x : Int32} (hd : decode cc pc = .ok (.tableswitch dflt lo hi offs, len)) (tgt : Nat) (h : x.toInt < lo ∨ hi < x.toInt) (ht : (pc : Int) + dflt = (tgt : Int)) (k : V l G X own cc nL d ret κ T σ tgt lv st) : V l G X own cc nL d ret κ T σ pc lv (.int x :: st) := by
  intro C H locs ls I
  exact lv_tableOut C.1 C.2.1 hd h ht (k C H locs ls I)
theorem Vlv {lv' : List (Nat × Value)} (ks : List Nat) (h : lv_pick lv ks = lv') (k : V l G X own cc nL d ret κ T σ pc lv' st) : V l G X own cc nL d ret κ T σ pc lv st := by
  intro C H locs ls I
  exact k C H locs ls ⟨I.1, I.2.1, I.2.2.1, lv_sub I.2.2.2 ks h⟩
theorem Vap {α : Type} {B : α → Int32 × mS} {e : α} (k : V l G X own cc nL d ret κ (B e) σ pc lv st) : V l G X own cc nL d ret κ (ap B e) σ pc lv st := k
theorem Vaa {α β : Type} {B : β → Int32 × mS} {f : α → β} {e : α} (k : V l G X own cc nL d ret κ (ap (fun u => ap B (f u)) e) σ pc lv st) : V l G X own cc nL d ret κ (ap B (ap f e)) σ pc lv st := k
theorem Vgen {α : Type} {B : α → Int32 × mS} {e : α} (k : ∀ u : α, u = e → V l G X own cc nL d ret κ (B u) σ pc lv st) : V l G X own cc nL d ret κ (ap B e) σ pc lv st := k e rfl
theorem Vif {α : Type} (g : α → Int32 × mS) {a1 a2 : α} {c : Prop} {dc : Decidable c} (kt : c → V l G X own cc nL d ret κ (g a1) σ pc lv st) (kf : ¬ c → V l G X own cc nL d ret κ (g a2) σ pc lv st) : V l G X own cc nL d ret κ (g (@ite _ c dc a1 a2)) σ pc lv st := by
  by_cases h : c
  · rw [if_pos h]; exact kt h
  · rw [if_neg h]; exact kf h
theorem Vld {q n : Nat} {i : Int32} (hd : decode cc pc = .ok (.iaload, 1)) (pc' : Nat) (hp : pc' = pc + 1) (hq : q ∈ gI G) (hk : wK q = 0) (hn : wN q = n) (ht : (gY G)[0]? = some ((gC G).1, .int)) (hin : vp_in i n) (k : V l G X own cc nL d ret κ T σ pc' lv (.int (σ q i.toNatClampNeg) :: st)) : V l G X own cc nL d ret κ T σ pc lv (.int i :: .ref (ad G q) :: st) := by
  subst hp
  intro C H locs ls I
  obtain ⟨j, hj, hw⟩ := wD_at hq σ
  rw [wE_i hk hn] at hw
  exact va_iald C.1 C.2.1 C.2.2.2.2.2.1 I.1 j 0 hw ht hin hd (k C H locs ls I)
theorem Vst {q n : Nat} {i v : Int32} (hd : decode cc pc = .ok (.iastore, 1)) (pc' : Nat) (hp : pc' = pc + 1) (hq : q ∈ gI G) (hk : wK q = 0) (hn : wN q = n) (ht : (gY G)[0]? = some ((gC G).1, .int)) (hin : vp_in i n) (k : V l G X own cc nL d ret κ T (st2 σ q i.toNatClampNeg v) pc' lv st) : V l G X own cc nL d ret κ T σ pc lv (.int v :: .int i :: .ref (ad G q) :: st) := by
  subst hp
  intro C H locs ls I
  obtain ⟨j, hj, hw⟩ := wD_at hq σ
  rw [wE_i hk hn] at hw
  refine va_iast C.1 C.2.1 C.2.2.2.2.2.1 I.1 I.2.1 I.2.2.1 j 0 hw ht hin hd (fun H1 locs1 hP1 hD1 hS1 => ?_)
  rw [wD_set (σ' := st2 σ q i.toNatClampNeg v) I.2.1 hj (by rw [wE_i hk hn, st2_q]) (fun q' h => st2_nq h)] at hP1 hD1
  exact k C H1 locs1 ls ⟨hP1, hD1, hS1, I.2.2.2⟩
theorem Vldz {q n : Nat} {i : Int32} (hd : decode cc pc = .ok (.baload, 1)) (pc' : Nat) (hp : pc' = pc + 1) (hq : q ∈ gI G) (hk : wK q = 1) (hn : wN q = n) (ht : (gY G)[1]? = some ((gC G).2.1, .boolean)) (hin : vp_in i n) (k : V l G X own cc nL d ret κ T σ pc' lv (.int (σ q i.toNatClampNeg) :: st)) : V l G X own cc nL d ret κ T σ pc lv (.int i :: .ref (ad G q) :: st) := by
  subst hp
  intro C H locs ls I
  obtain ⟨j, hj, hw⟩ := wD_at hq σ
  rw [wE_z hk hn] at hw
  exact va_zald C.1 C.2.1 C.2.2.2.2.2.1 I.1 j 1 hw ht hin hd (k C H locs ls I)
theorem Vstz {q n : Nat} {i v : Int32} (hd : decode cc pc = .ok (.bastore, 1)) (pc' : Nat) (hp : pc' = pc + 1) (hq : q ∈ gI G) (hk : wK q = 1) (hn : wN q = n) (ht : (gY G)[1]? = some ((gC G).2.1, .boolean)) (hin : vp_in i n) (hv : vp_nar .boolean v = v) (k : V l G X own cc nL d ret κ T (st2 σ q i.toNatClampNeg v) pc' lv st) : V l G X own cc nL d ret κ T σ pc lv (.int v :: .int i :: .ref (ad G q) :: st) := by
  subst hp
  intro C H locs ls I
  obtain ⟨j, hj, hw⟩ := wD_at hq σ
  rw [wE_z hk hn] at hw
  refine va_zast C.1 C.2.1 C.2.2.2.2.2.1 I.1 I.2.1 I.2.2.1 j 1 hw ht hin hd (fun H1 locs1 hP1 hD1 hS1 => ?_)
  rw [wD_set (σ' := st2 σ q i.toNatClampNeg v) I.2.1 hj (by rw [wE_z hk hn, st2_q, hv]) (fun q' h => st2_nq h)] at hP1 hD1
  exact k C H1 locs1 ls ⟨hP1, hD1, hS1, I.2.2.2⟩
theorem Vlds {i : Int32} (hd : decode cc pc = .ok (.aaload, 1)) (pc' : Nat) (hp : pc' = pc + 1) (hq : 13 ∈ gI G) (ht : (gY G)[2]? = some ((gC G).2.2, .object "MutableCells$Strand")) (hin : vp_in i 3) (k : V l G X own cc nL d ret κ T σ pc' lv (.ref (ad G (14 + 13 * i.toNatClampNeg)) :: st)) : V l G X own cc nL d ret κ T σ pc lv (.int i :: .ref (ad G 13) :: st) := by
  subst hp
  intro C H locs ls I
  obtain ⟨j, hj, hw⟩ := wD_at hq σ
  rw [wE_s rfl] at hw
  exact va_aldq C.1 C.2.1 C.2.2.2.2.2.1 I.1 j 2 hw ht hin hd (k C H locs ls I)
theorem Vlen {q n : Nat} (hd : decode cc pc = .ok (.arraylength, 1)) (v : Int32) (pc' : Nat) (hp : pc' = pc + 1) (hq : q ∈ gI G) (hk : wK q = 0) (hn : wN q = n) (ht : (gY G)[0]? = some ((gC G).1, .int)) (hv : Int32.ofNat n = v) (k : V l G X own cc nL d ret κ T σ pc' lv (.int v :: st)) : V l G X own cc nL d ret κ T σ pc lv (.ref (ad G q) :: st) := by
  subst hp
  intro C H locs ls I
  obtain ⟨j, hj, hw⟩ := wD_at hq σ
  rw [wE_i hk hn] at hw
  exact va_alen C.1 C.2.1 C.2.2.2.2.2.1 I.1 j 0 hw ht hv hd (k C H locs ls I)
theorem Vlens (hd : decode cc pc = .ok (.arraylength, 1)) (pc' : Nat) (hp : pc' = pc + 1) (hq : 13 ∈ gI G) (ht : (gY G)[2]? = some ((gC G).2.2, .object "MutableCells$Strand")) (k : V l G X own cc nL d ret κ T σ pc' lv (.int 3 :: st)) : V l G X own cc nL d ret κ T σ pc lv (.ref (ad G 13) :: st) := by
  subst hp
  intro C H locs ls I
  obtain ⟨j, hj, hw⟩ := wD_at hq σ
  rw [wE_s rfl] at hw
  exact va_alen C.1 C.2.1 C.2.2.2.2.2.1 I.1 j 2 hw ht (v := 3) rfl hd (k C H locs ls I)
theorem Vget {C0 : String} {T0 : u_T} {N ci idx : Nat} (q k0 : Nat) {v : Value} (hd : decode cc pc = .ok (.getfield idx, 3)) (pc' : Nat) (hp : pc' = pc + 3) (hq : q ∈ gI G) (hk : wK q = ci + 3) (hcl : vwCl[ci]? = some (C0, T0, N)) (hin : ∀ w ∈ u_ws C0 T0 N, w ∈ lw_TB) (hkN : k0 < N) (hlink : Cond.fieldLink own idx (T0 k0).1 (T0 k0).2.1 (T0 k0).2.2.1 ∈ lw_TB) (hv : (oV ci (ad G) q (σ q))[k0]? = some v) (k : V l G X own cc nL d ret κ T σ pc' lv (v :: st)) : V l G X own cc nL d ret κ T σ pc lv (.ref (ad G q) :: st) := by
  subst hp
  intro C H locs ls I
  obtain ⟨j, hj, hw⟩ := wD_at hq σ
  rw [wE_o hk] at hw
  exact va_get C.1 C.2.1 C.2.2.2.2.1 hin C.2.2.2.1 C.2.2.2.2.2.1 I.1 j hw hcl k0 hkN (C.2.2.2.2.1 _ hlink) (fun _ h9 => h9) hv hd (k C H locs ls I)
theorem VgetN {C0 host : String} {T0 : u_T} {N ci idx : Nat} (q k0 : Nat) {v : Value} (hd : decode cc pc = .ok (.getfield idx, 3)) (pc' : Nat) (hp : pc' = pc + 3) (hq : q ∈ gI G) (hk : wK q = ci + 3) (hcl : vwCl[ci]? = some (C0, T0, N)) (hin : ∀ w ∈ u_ws C0 T0 N, w ∈ lw_TB) (hkN : k0 < N) (hlink : Cond.fieldLinkNest own idx (T0 k0).1 (T0 k0).2.1 (T0 k0).2.2.1 host ∈ lw_nest) (hv : (oV ci (ad G) q (σ q))[k0]? = some v) (k : V l G X own cc nL d ret κ T σ pc' lv (v :: st)) : V l G X own cc nL d ret κ T σ pc lv (.ref (ad G q) :: st) := by
  subst hp
  intro C H locs ls I
  obtain ⟨j, hj, hw⟩ := wD_at hq σ
  rw [wE_o hk] at hw
  exact va_getN C.1 C.2.1 C.2.2.2.2.1 hin C.2.2.2.1 C.2.2.2.2.2.1 I.1 j hw hcl k0 hkN (va_Nw.use rfl (C.2.2.2.2.2.2.2.2 _ hlink)) (fun _ h9 => h9) hv hd (k C H locs ls I)
theorem Vput {C0 : String} {T0 : u_T} {N ci idx : Nat} (q k0 : Nat) {x : Int32} {ty : FieldType} (ty0 : Nat → FieldType) (hd : decode cc pc = .ok (.putfield idx, 3)) (pc' : Nat) (hp : pc' = pc + 3) (hq : q ∈ gI G) (hk : wK q = ci + 3) (hcl : vwCl[ci]? = some (C0, T0, N)) (hin : ∀ w ∈ u_ws C0 T0 N, w ∈ lw_TB) (hty : ∀ k, k < N → parseFieldDescriptor (T0 k).2.2.1 = some (ty0 k)) (hnm : ∀ a, a < N → ∀ b, b < N → a ≠ b → (T0 a).2.1 ≠ (T0 b).2.1) (hkN : k0 < N) (hlink : Cond.fieldLink own idx (T0 k0).1 (T0 k0).2.1 (T0 k0).2.2.1 ∈ lw_TB) (hfin : (T0 k0).2.2.2 = false) (hdd : parseFieldDescriptor (T0 k0).2.2.1 = some ty) (hna : narrow ty (.int x) = .int x) (hfit : fits ty (.int x) = true) (hset : ∀ f : Nat → Int32, (oV ci (ad G) q f).set k0 (.int x) = oV ci (ad G) q (upd f k0 x)) (hlen : ∀ f : Nat → Int32, k0 < (oV ci (ad G) q f).length) (k : V l G X own cc nL d ret κ T (st2 σ q k0 x) pc' lv st) : V l G X own cc nL d ret κ T σ pc lv (.int x :: .ref (ad G q) :: st) := by
  subst hp
  intro C H locs ls I
  obtain ⟨j, hj, hw⟩ := wD_at hq σ
  rw [wE_o hk] at hw
  refine va_put C.1 C.2.1 C.2.2.2.2.1 hin ty0 hty hnm C.2.2.2.1 C.2.2.2.2.2.1 I.1 I.2.1 I.2.2.1 j hw hcl k0 hkN (C.2.2.2.2.1 _ hlink) (fun _ h9 => h9) hfin hdd hna hfit (hlen _) hd (fun H1 locs1 hP1 hD1 hS1 => ?_)
  rw [wD_set (σ' := st2 σ q k0 x) I.2.1 hj (by rw [wE_o hk, st2_q, hset]) (fun q' h => st2_nq h)] at hP1 hD1
  exact k C H1 locs1 ls ⟨hP1, hD1, hS1, I.2.2.2⟩
theorem VputN {C0 host : String} {T0 : u_T} {N ci idx : Nat} (q k0 : Nat) {x : Int32} {ty : FieldType} (ty0 : Nat → FieldType) (hd : decode cc pc = .ok (.putfield idx, 3)) (pc' : Nat) (hp : pc' = pc + 3) (hq : q ∈ gI G) (hk : wK q = ci + 3) (hcl : vwCl[ci]? = some (C0, T0, N)) (hin : ∀ w ∈ u_ws C0 T0 N, w ∈ lw_TB) (hty : ∀ k, k < N → parseFieldDescriptor (T0 k).2.2.1 = some (ty0 k)) (hnm : ∀ a, a < N → ∀ b, b < N → a ≠ b → (T0 a).2.1 ≠ (T0 b).2.1) (hkN : k0 < N) (hlink : Cond.fieldLinkNest own idx (T0 k0).1 (T0 k0).2.1 (T0 k0).2.2.1 host ∈ lw_nest) (hfin : (T0 k0).2.2.2 = false) (hdd : parseFieldDescriptor (T0 k0).2.2.1 = some ty) (hna : narrow ty (.int x) = .int x) (hfit : fits ty (.int x) = true) (hset : ∀ f : Nat → Int32, (oV ci (ad G) q f).set k0 (.int x) = oV ci (ad G) q (upd f k0 x)) (hlen : ∀ f : Nat → Int32, k0 < (oV ci (ad G) q f).length) (k : V l G X own cc nL d ret κ T (st2 σ q k0 x) pc' lv st) : V l G X own cc nL d ret κ T σ pc lv (.int x :: .ref (ad G q) :: st) := by
  subst hp
  intro C H locs ls I
  obtain ⟨j, hj, hw⟩ := wD_at hq σ
  rw [wE_o hk] at hw
  refine va_putN C.1 C.2.1 C.2.2.2.2.1 hin ty0 hty hnm C.2.2.2.1 C.2.2.2.2.2.1 I.1 I.2.1 I.2.2.1 j hw hcl k0 hkN (va_Nw.use rfl (C.2.2.2.2.2.2.2.2 _ hlink)) (fun _ h9 => h9) hfin hdd hna hfit (hlen _) hd (fun H1 locs1 hP1 hD1 hS1 => ?_)
  rw [wD_set (σ' := st2 σ q k0 x) I.2.1 hj (by rw [wE_o hk, st2_q, hset]) (fun q' h => st2_nq h)] at hP1 hD1
  exact k C H1 locs1 ls ⟨hP1, hD1, hS1, I.2.2.2⟩
theorem Vcopy {idx qs qd n : Nat} {m : Int32} (hd : decode cc pc = .ok (.invokestatic idx, 3)) (pc' : Nat) (hp : pc' = pc + 3) (hlink : Cond.methodLink own idx arraycopyName ∈ lw_TB) (hqs : qs ∈ gI G) (hks : wK qs = 0) (hns : wN qs = n) (hqd : qd ∈ gI G) (hkd : wK qd = 0) (hnd : wN qd = n) (ht : (gY G)[0]? = some ((gC G).1, .int)) (hm : m.toNatClampNeg = n) (hm0 : ¬ m < 0) (hd1 : 1 ≤ d) (hst : st = []) (k : V l G X own cc nL d ret κ T (cp2 σ qs qd n) pc' lv []) : V l G X own cc nL d ret κ T σ pc lv (.int m :: .int 0 :: .ref (ad G qd) :: .int 0 :: .ref (ad G qs) :: st) := by
  subst hp; subst hst
  intro C H locs ls I
  obtain ⟨j, hj, hw⟩ := wD_at hqs σ
  rw [wE_i hks hns] at hw
  obtain ⟨j2, hj2, hw2⟩ := wD_at hqd σ
  have h00 : (0 : Int32).toNatClampNeg = 0 := by decide
  have hcp : va_cpy (σ qs) (σ qd) (0 : Int32).toNatClampNeg (0 : Int32).toNatClampNeg m.toNatClampNeg = cp2 σ qs qd n qd := by
    funext i
    rw [h00, hm]
    simp [va_cpy, cp2]
  rw [wE_i hkd hnd] at hw2
  refine va_copyi C.1 C.2.1 (C.2.2.1.trans I.2.2.2.1.symm) C.2.2.2.1 (C.2.2.2.2.1 _ hlink) (C.2.2.2.2.1 _ wd_nat_arraycopyName) (C.2.2.2.2.1 _ wd_sm_arraycopyName) (C.2.2.2.2.1 _ wd_ini_RJ10) C.2.2.2.2.2.1 I.1 I.2.1 I.2.2.1 j j2 0 0 hw hw2 ht ht rfl (by decide) (by decide) hm0 (by rw [hm]; exact Nat.le_of_eq (Nat.zero_add n)) (by rw [hm]; exact Nat.le_of_eq (Nat.zero_add n)) (fun i _ => rfl) hd1 ?_ hd (fun H1 locs1 hP1 hD1 hS1 => ?_)
  · show 0 + (nativeFrameWords "java/lang/System" "arraycopy" 5 + 11) ≤ 40 * d
    have h1 : nativeFrameWords "java/lang/System" "arraycopy" 5 + 11 ≤ 40 := by decide +kernel
    omega
  · rw [wD_set (σ' := cp2 σ qs qd n) I.2.1 hj2 (by rw [wE_i hkd hnd]; rw [hcp]) (fun q' h => cp2_nq h)] at hP1 hD1
    exact k C H1 locs1 ls ⟨hP1, hD1, hS1, I.2.2.2⟩
/-! returns -/
theorem Viret {v : Int32} (hd : decode cc pc = .ok (.ireturn, 1)) : V l G X own cc nL d (some .int) κI (v, σ) σ pc lv [.int v] := by
  intro C H locs ls I
  exact W.iret C.1 C.2.1 C.2.2.2.2.2.2.1 (fun t ht hW => ⟨⟨rfl, by rw [ht]; exact I.1⟩, I.2.2.1.F ht⟩) I.2.2.1.2.2 hd C.2.2.2.2.2.2.2.1
theorem Vzret {v : Int32} (hd : decode cc pc = .ok (.ireturn, 1)) (hn : narrow .boolean (.int v) = .int v) : V l G X own cc nL d (some .boolean) κI (v, σ) σ pc lv [.int v] := by
  intro C H locs ls I
  exact W.zret C.1 C.2.1 C.2.2.2.2.2.2.1 hn (fun t ht hW => ⟨⟨rfl, by rw [ht]; exact I.1⟩, I.2.2.1.F ht⟩) I.2.2.1.2.2 hd C.2.2.2.2.2.2.2.1
theorem Vvret {v : Int32} (hd : decode cc pc = .ok (.return_, 1)) : V l G X own cc nL d none κV (v, σ) σ pc lv [] := by
  intro C H locs ls I
  exact W.vret C.1 C.2.1 C.2.2.2.2.2.2.1 (fun t ht hW => ⟨⟨rfl, by rw [ht]; exact I.1⟩, I.2.2.1.F ht⟩) I.2.2.1.2.2 hd C.2.2.2.2.2.2.2.1
theorem Varet {v : Int32} {n : String} (hd : decode cc pc = .ok (.areturn, 1)) (q : Nat) (hv : κR G v = some (.ref (ad G q))) : V l G X own cc nL d (some (.object n)) (κR G) (v, σ) σ pc lv [.ref (ad G q)] := by
  intro C H locs ls I
  exact W.aret C.1 C.2.1 C.2.2.2.2.2.2.1 (Or.inl ⟨_, rfl⟩) (Or.inr ⟨_, rfl⟩) (fun t ht hW => ⟨⟨by rw [hv], by rw [ht]; exact I.1⟩, I.2.2.1.F ht⟩) I.2.2.1.2.2 hd C.2.2.2.2.2.2.2.1
theorem VaretN {n : String} (hd : decode cc pc = .ok (.areturn, 1)) : V l G X own cc nL d (some (.object n)) (κR G) (-1, σ) σ pc lv [.null] := by
  intro C H locs ls I
  exact W.aret C.1 C.2.1 C.2.2.2.2.2.2.1 (Or.inl ⟨_, rfl⟩) (Or.inl rfl) (fun t ht hW => ⟨⟨rfl, by rw [ht]; exact I.1⟩, I.2.2.1.F ht⟩) I.2.2.1.2.2 hd C.2.2.2.2.2.2.2.1
end VR
/-! calls -/
/-- what the tables say of a method that is called: code, initialised, its number of arguments -/
def mW (y : MethodName) (cy : ByteArray) (nLy : Nat) (rety : Option FieldType) (n : Nat) : Prop := Cond.code y cy nLy rety ∈ lw_TB ∧ Cond.initialized y.cls ∈ lw_TB ∧ (y.cls ≠ "java/lang/invoke/MethodHandle" ∧ y.cls ≠ "java/lang/invoke/VarHandle") ∧ (parseMethodDescriptor y.desc).map (fun d => d.parameters.length) = some n ∧ nLy ≤ 21
theorem good_ws {y : MethodName} {cy : ByteArray} {nLy n : Nat} {rety : Option FieldType} (h : mW y cy nLy rety n) : GoodIn lw_TB (Cond.code y cy nLy rety :: lw_TB) := by
  intro w hw
  have h1 : w ∈ lw_TB := by
    rcases List.mem_cons.mp hw with e | e
    · rw [e]; exact h.1
    · exact e
  exact ⟨h1, good_of_word (lw_TB_good h1)⟩
theorem callB_m {own : String} {idx nLy n d dy : Nat} {y : MethodName} {cy : ByteArray} {rety : Option FieldType} {s : State} {args : Array Value} (h : mW y cy nLy rety n) (ht : ∀ w ∈ lw_TB, w.before args s = true) (hl : Cond.methodLink own idx y ∈ lw_TB) (hdy : dy + 1 ≤ d) : CallB (rm d) s args own idx y cy nLy rety (Cond.code y cy nLy rety :: lw_TB) (rm dy) 0 0 n := by
  refine callB_of n ht (good_ws h) rfl rfl rfl (ht _ h.2.1) (ht _ hl) ⟨h.2.2.1.1, h.2.2.1.2, h.2.2.2.1⟩ ⟨hdy, ?_⟩
  have h5 := h.2.2.2.2
  show 8 + (nLy + 11) + 40 * dy ≤ 40 * d
  omega
theorem blind_m (G : gT) (σ : mS) (avs : List Value) : FrameBlind (va_Pc avs (fun U => mP G σ U.heap ∧ va_K G.1 vwCl (gY G) U ∧ va_D (fun _ => True) (wD G σ) ∧ mN U)) := by
  intro a U g mk q
  obtain ⟨q0, qP, qK, qD, qN⟩ := q
  exact ⟨q0, qP, va_K.moved (u := U) (U := U.calling g mk a) (Vm.Alike.refl U.vm) qK, qD, mN.same (u := U) (U := U.calling g mk a) rfl qN⟩
theorem pre_m {G : gT} {X : xT} {own : String} {cc : ByteArray} {nL : Nat} {ret : Option FieldType} {σ : mS} {lv : List (Nat × Value)} {H : Heap} {locs : List Loc} {ls : Array Slot} (C : Vc G X own cc nL ret) (I : Vh G X nL σ lv H locs ls) (avs : List Value) : ∀ U : State, U.heap = H → X.2.2.1.WarmedH U.vm → va_Pc avs (fun U => mP G σ U.heap ∧ va_K G.1 vwCl (gY G) U ∧ va_D (fun _ => True) (wD G σ) ∧ mN U) avs.toArray U := by
  intro U hU hW
  exact ⟨rfl, by rw [hU]; exact I.1, va_K.moved hW.alike C.2.2.2.2.2.1, I.2.1.weaken (fun _ _ _ _ => trivial), mN.warm hW C.2.2.2.2.2.2.2.2⟩
theorem Vback {l : Launch} {G : gT} {X : xT} {own : String} {cc : ByteArray} {nL d : Nat} {ret : Option FieldType} {κ κy : Int32 → Option Value} {T Fy : Int32 × mS} {σ : mS} {pc : Nat} {lv : List (Nat × Value)} {st st0 : List Value} {H : Heap} {locs : List Loc} {ls : Array Slot} {a : Array Value} (C : Vc G X own cc nL ret) (I : Vh G X nL σ lv H locs ls)
    (hr : va_Run X.1 l X.2.1 (rm d) X.2.2.1 X.2.2.2.1 X.2.2.2.2.1 X.2.2.2.2.2.1 X.2.2.2.2.2.2.1 X.2.2.2.2.2.2.2 H locs 0 0 0 0 (F0 X.2.2.2.1 pc ls st0) st (mQ G κy Fy a) (mA G))
    (k : V l G X own cc nL d ret κ T Fy.2 (pc + 3) lv ((κy Fy.1).toList ++ st)) : W X.1 l X.2.1 (rm d) X.2.2.1 X.2.2.2.1 X.2.2.2.2.1 X.2.2.2.2.2.1 X.2.2.2.2.2.2.1 X.2.2.2.2.2.2.2 H locs 0 0 (MQ X.2.2.2.2.2.1 (mQ G κ T) X.2.2.2.2.1 X.2.2.1 0 0 (mA G)) (F0 X.2.2.2.1 pc ls st0) := by
  intro S hS Xs
  obtain ⟨v, st₀, t, T', L, h0, X', hL, e1, e2, ⟨⟨hv, hP⟩, hz, hk⟩, stp⟩ := hr S hS Xs
  obtain rfl : v = κy Fy.1 := by injection hv
  rw [h0] at hz hk
  rw [← e1] at hz hk hP
  obtain ⟨t2, a1, b1⟩ := k C T'.heap (locs ++ L) ls ⟨hP, wD_adr I.2.1 (fun _ h => h), ⟨Nat.le_trans I.2.2.1.1 hz, fun q h1 h2 => by rw [hk q (Nat.lt_of_lt_of_le h1 I.2.2.1.1) h2]; exact I.2.2.1.2.1 q h1 h2, fun q hq => by
      rcases List.mem_append.mp hq with h | h
      · exact I.2.2.1.2.2 q h
      · exact hL q h⟩, I.2.2.2⟩ T' rfl X'
  exact ⟨t2, stp t2 a1, b1⟩
section VCl
variable {l : Launch} {G : gT} {X : xT} {own : String} {cc : ByteArray} {nL d : Nat} {ret : Option FieldType} {κ : Int32 → Option Value} {T Fy : Int32 × mS} {σ : mS} {pc : Nat} {lv : List (Nat × Value)} {st st0 : List Value} {idx : Nat} {y : MethodName} {cy : ByteArray} {nLy dy n : Nat} {rety : Option FieldType} {κy : Int32 → Option Value}
theorem VcallV {q ci : Nat} {cl : vw_C} (As : List Value) (hc : Ct l G y cy nLy rety dy (.ref (ad G q) :: As) κy σ Fy) (hm : mW y cy nLy rety n) (him : Cond.instanceMethod y ∈ lw_TB) (hse : Cond.selects y.cls y y ∈ lw_TB) (hl : Cond.methodLink own idx y ∈ lw_TB) (hq : q ∈ gI G) (hk : wK q = ci + 3) (hcl : vwCl[ci]? = some cl) (hcn : cl.1 = y.cls) (hdy : dy + 1 ≤ d) (hn : As.length = n) (hst : st0 = As.reverse ++ .ref (ad G q) :: st) (hrest : (st.map fun v => v.category).sum ≤ 8) (hd : decode cc pc = .ok (.invokevirtual idx, 3)) (k : V l G X own cc nL d ret κ T Fy.2 (pc + 3) lv ((κy Fy.1).toList ++ st)) : V l G X own cc nL d ret κ T σ pc lv st0 := by
  intro C H locs ls I
  obtain ⟨j, hj, hw⟩ := wD_at hq σ
  rw [wE_o hk] at hw
  have hrc := va_recv C.2.2.2.2.2.1 I.1 hcl hw
  rw [hcn] at hrc
  exact Vback C I (va_runV (Ts := lw_TB) (As := As) (rest := st) ⟨C.1, C.2.1, C.2.2.1, C.2.2.2.1, C.2.2.2.2.1⟩ hc ⟨callB_m hm C.2.2.2.2.1 hl hdy, C.2.2.2.2.1 _ him, C.2.2.2.2.1 _ hse⟩ ⟨blind_m G σ _, hrc, pre_m C I _⟩ rfl hn I.2.2.2.1 hst (lv_room hrest) hd ⟨Nat.le_refl _, Nat.le_refl _⟩) k
theorem VcallS (As : List Value) (hc : Ct l G y cy nLy rety dy As κy σ Fy) (hm : mW y cy nLy rety n) (him : Cond.static y ∈ lw_TB) (hl : Cond.methodLink own idx y ∈ lw_TB) (hdy : dy + 1 ≤ d) (hn : As.length = n) (hst : st0 = As.reverse ++ st) (hrest : (st.map fun v => v.category).sum ≤ 8) (hd : decode cc pc = .ok (.invokestatic idx, 3)) (k : V l G X own cc nL d ret κ T Fy.2 (pc + 3) lv ((κy Fy.1).toList ++ st)) : V l G X own cc nL d ret κ T σ pc lv st0 := by
  intro C H locs ls I
  exact Vback C I (va_runS (Ts := lw_TB) (As := As) (rest := st) ⟨C.1, C.2.1, C.2.2.1, C.2.2.2.1, C.2.2.2.2.1⟩ hc ⟨callB_m hm C.2.2.2.2.1 hl hdy, C.2.2.2.2.1 _ him⟩ ⟨blind_m G σ _, pre_m C I _⟩ rfl hn I.2.2.2.1 hst (lv_room hrest) hd ⟨Nat.le_refl _, Nat.le_refl _⟩) k
theorem VcallSN {host : String} (As : List Value) (hc : Ct l G y cy nLy rety dy As κy σ Fy) (hm : mW y cy nLy rety n) (him : Cond.static y ∈ lw_TB) (hl : Cond.methodLinkNest own idx y host ∈ lw_nest) (hdy : dy + 1 ≤ d) (hn : As.length = n) (hst : st0 = As.reverse ++ st) (hrest : (st.map fun v => v.category).sum ≤ 8) (hd : decode cc pc = .ok (.invokestatic idx, 3)) (k : V l G X own cc nL d ret κ T Fy.2 (pc + 3) lv ((κy Fy.1).toList ++ st)) : V l G X own cc nL d ret κ T σ pc lv st0 := by
  intro C H locs ls I
  have hR : (rm dy).frames + 1 ≤ (rm d).frames ∧ 8 + (nLy + 11) + (rm dy).locals ≤ (rm d).locals := by
    refine ⟨hdy, ?_⟩
    have h5 := hm.2.2.2.2
    show 8 + (nLy + 11) + 40 * dy ≤ 40 * d
    omega
  exact Vback C I (va_runSN (Ts := lw_TB) (As := As) (rest := st) ⟨C.1, C.2.1, C.2.2.1, C.2.2.2.1, C.2.2.2.2.1⟩ hc ⟨va_cnB n C.2.2.2.2.1 (good_ws hm) rfl rfl rfl (C.2.2.2.2.2.2.2.2 _ hl) (C.2.2.2.2.1 _ hm.2.1) ⟨hm.2.2.1.1, hm.2.2.1.2, hm.2.2.2.1⟩ hR, C.2.2.2.2.1 _ him, trivial⟩ ⟨blind_m G σ _, pre_m C I _⟩ rfl hn I.2.2.2.1 hst (lv_room hrest) hd ⟨Nat.le_refl _, Nat.le_refl _⟩) k
theorem VcVp {q ci : Nat} {cl : vw_C} {v : Int32} (hd : decode cc pc = .ok (.invokevirtual idx, 3)) (As : List Value) (hc : Ct l G y cy nLy rety dy (.ref (ad G q) :: As) κI σ (v, σ)) (hm : mW y cy nLy rety n) (him : Cond.instanceMethod y ∈ lw_TB) (hse : Cond.selects y.cls y y ∈ lw_TB) (hl : Cond.methodLink own idx y ∈ lw_TB) (hq : q ∈ gI G) (hk : wK q = ci + 3) (hcl : vwCl[ci]? = some cl) (hcn : cl.1 = y.cls) (hdy : dy + 1 ≤ d) (hn : As.length = n) (hst : st0 = As.reverse ++ .ref (ad G q) :: st) (hrest : (st.map fun v => v.category).sum ≤ 8) (pc' : Nat) (hp : pc' = pc + 3) (k : V l G X own cc nL d ret κ T σ pc' lv (.int v :: st)) : V l G X own cc nL d ret κ T σ pc lv st0 := by
  subst hp
  exact VcallV As hc hm him hse hl hq hk hcl hcn hdy hn hst hrest hd k
theorem VcVi {q ci : Nat} {cl : vw_C} {u : Int32 × mS} (hd : decode cc pc = .ok (.invokevirtual idx, 3)) (As : List Value) (hc : Ct l G y cy nLy rety dy (.ref (ad G q) :: As) κI σ u) (hm : mW y cy nLy rety n) (him : Cond.instanceMethod y ∈ lw_TB) (hse : Cond.selects y.cls y y ∈ lw_TB) (hl : Cond.methodLink own idx y ∈ lw_TB) (hq : q ∈ gI G) (hk : wK q = ci + 3) (hcl : vwCl[ci]? = some cl) (hcn : cl.1 = y.cls) (hdy : dy + 1 ≤ d) (hn : As.length = n) (hst : st0 = As.reverse ++ .ref (ad G q) :: st) (hrest : (st.map fun v => v.category).sum ≤ 8) (pc' : Nat) (hp : pc' = pc + 3) (k : V l G X own cc nL d ret κ T u.2 pc' lv (.int u.1 :: st)) : V l G X own cc nL d ret κ T σ pc lv st0 := by
  subst hp
  exact VcallV As hc hm him hse hl hq hk hcl hcn hdy hn hst hrest hd k
theorem VcVv {q ci : Nat} {cl : vw_C} {u : Int32 × mS} (hd : decode cc pc = .ok (.invokevirtual idx, 3)) (As : List Value) (hc : Ct l G y cy nLy rety dy (.ref (ad G q) :: As) κV σ u) (hm : mW y cy nLy rety n) (him : Cond.instanceMethod y ∈ lw_TB) (hse : Cond.selects y.cls y y ∈ lw_TB) (hl : Cond.methodLink own idx y ∈ lw_TB) (hq : q ∈ gI G) (hk : wK q = ci + 3) (hcl : vwCl[ci]? = some cl) (hcn : cl.1 = y.cls) (hdy : dy + 1 ≤ d) (hn : As.length = n) (hst : st0 = As.reverse ++ .ref (ad G q) :: st) (hrest : (st.map fun v => v.category).sum ≤ 8) (pc' : Nat) (hp : pc' = pc + 3) (k : V l G X own cc nL d ret κ T u.2 pc' lv st) : V l G X own cc nL d ret κ T σ pc lv st0 := by
  subst hp
  exact VcallV As hc hm him hse hl hq hk hcl hcn hdy hn hst hrest hd k
theorem VcVr {q ci : Nat} {cl : vw_C} {v : Int32} {α : Type} (g : α → Int32 × mS) {a1 a2 : α} (hd : decode cc pc = .ok (.invokevirtual idx, 3)) (As : List Value) (hc : Ct l G y cy nLy rety dy (.ref (ad G q) :: As) (κR G) σ (v, σ)) (hm : mW y cy nLy rety n) (him : Cond.instanceMethod y ∈ lw_TB) (hse : Cond.selects y.cls y y ∈ lw_TB) (hl : Cond.methodLink own idx y ∈ lw_TB) (hq : q ∈ gI G) (hk : wK q = ci + 3) (hcl : vwCl[ci]? = some cl) (hcn : cl.1 = y.cls) (hdy : dy + 1 ≤ d) (hn : As.length = n) (hst : st0 = As.reverse ++ .ref (ad G q) :: st) (hrest : (st.map fun v => v.category).sum ≤ 8) (pc' : Nat) (hp : pc' = pc + 3) (kn : v = -1 → V l G X own cc nL d ret κ (g a1) σ pc' lv (.null :: st)) (ks : ¬ v = -1 → V l G X own cc nL d ret κ (g a2) σ pc' lv (.ref (ad G (sI v)) :: st)) : V l G X own cc nL d ret κ (g (if v = -1 then a1 else a2)) σ pc lv st0 := by
  subst hp
  refine VcallV As hc hm him hse hl hq hk hcl hcn hdy hn hst hrest hd ?_
  by_cases h : v = -1
  · rw [if_pos h]
    have h1 : (κR G (v, σ).1).toList ++ st = .null :: st := by simp [κR, va_rf, h]
    rw [h1]; exact kn h
  · rw [if_neg h]
    have h1 : (κR G (v, σ).1).toList ++ st = .ref (ad G (sI v)) :: st := by simp [κR, va_rf, h]
    rw [h1]; exact ks h
theorem VcSp {v : Int32} (hd : decode cc pc = .ok (.invokestatic idx, 3)) (As : List Value) (hc : Ct l G y cy nLy rety dy As κI σ (v, σ)) (hm : mW y cy nLy rety n) (him : Cond.static y ∈ lw_TB) (hl : Cond.methodLink own idx y ∈ lw_TB) (hdy : dy + 1 ≤ d) (hn : As.length = n) (hst : st0 = As.reverse ++ st) (hrest : (st.map fun v => v.category).sum ≤ 8) (pc' : Nat) (hp : pc' = pc + 3) (k : V l G X own cc nL d ret κ T σ pc' lv (.int v :: st)) : V l G X own cc nL d ret κ T σ pc lv st0 := by
  subst hp
  exact VcallS As hc hm him hl hdy hn hst hrest hd k
theorem VcSNp {host : String} {v : Int32} (hd : decode cc pc = .ok (.invokestatic idx, 3)) (As : List Value) (hc : Ct l G y cy nLy rety dy As κI σ (v, σ)) (hm : mW y cy nLy rety n) (him : Cond.static y ∈ lw_TB) (hl : Cond.methodLinkNest own idx y host ∈ lw_nest) (hdy : dy + 1 ≤ d) (hn : As.length = n) (hst : st0 = As.reverse ++ st) (hrest : (st.map fun v => v.category).sum ≤ 8) (pc' : Nat) (hp : pc' = pc + 3) (k : V l G X own cc nL d ret κ T σ pc' lv (.int v :: st)) : V l G X own cc nL d ret κ T σ pc lv st0 := by
  subst hp
  exact VcallSN As hc hm him hl hdy hn hst hrest hd k
theorem VcSv {u : Int32 × mS} (hd : decode cc pc = .ok (.invokestatic idx, 3)) (As : List Value) (hc : Ct l G y cy nLy rety dy As κV σ u) (hm : mW y cy nLy rety n) (him : Cond.static y ∈ lw_TB) (hl : Cond.methodLink own idx y ∈ lw_TB) (hdy : dy + 1 ≤ d) (hn : As.length = n) (hst : st0 = As.reverse ++ st) (hrest : (st.map fun v => v.category).sum ≤ 8) (pc' : Nat) (hp : pc' = pc + 3) (k : V l G X own cc nL d ret κ T u.2 pc' lv st) : V l G X own cc nL d ret κ T σ pc lv st0 := by
  subst hp
  exact VcallS As hc hm him hl hdy hn hst hrest hd k
end VCl
