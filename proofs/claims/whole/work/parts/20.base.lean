/-! THE JUDGEMENT J: 'from here the method comes to its end', the symbolic state in the goal; Ct: a contract of a method that makes nothing new. Own work over the kit's rows. -/
section JBase
def nwL : List (String × Nat × MethodName) := [(RX9, 18, yX1_init), (RX9, 244, yX6_movesFrom), (RX9, 47, yX8_init), (RX9, 9, yX2_init), (RX0, 110, yX9_withBit), (RX0, 47, yX9_bit), (RX1, 51, yX9_bit), (RX2, 59, yX9_withBit), (RX3, 15, yX1_init), (RX6, 15, yX9_bit), (RX8, 41, yX9_bit)]
def NW (U : State) : Prop := ∀ q ∈ nwL, va_Nw (.methodLinkNest q.1 q.2.1 q.2.2 RX9) U
theorem NW.warm {s U : State} (hW : s.WarmedH U.vm) (h : NW s) : NW U := fun q hq => va_Nw.warmM hW (h q hq)
theorem NW.same {s U : State} (hv : s.vm = U.vm) (h : NW s) : NW U := fun q hq => va_Nw.same rfl hv (h q hq)
def swsN (j : Nat) : Nat := if j = 0 then 43690 else if j = 1 then 52428 else if j = 2 then 61680 else 65280
def ZT (A : Nat → Prop) (U : State) (H : Heap) : Prop := ∃ t : Nat, va_Z RX0 "SETS_WITH_STATE" "[I" (.ref t) A U H ∧ va_T .int t 4 (fun j => .int (nI (swsN j))) A U H
theorem ZT.moved {A : Nat → Prop} {u U : State} {H : Heap} (hv : u.vm.Alike U.vm) (h : ZT A u H) : ZT A U H := by
  obtain ⟨t, h1, h2⟩ := h
  exact ⟨t, h1.moved hv, h2.moved hv⟩
theorem ZT.kept {A : Nat → Prop} {U : State} {H H1 : Heap} (h : ZT A U H) (hq : ∀ a : Nat, a < H.size → ¬ A a → H1[a]? = H[a]?) : ZT A U H1 := by
  obtain ⟨t, h1, h2⟩ := h
  exact ⟨t, h1.kept hq, h2.kept hq⟩
theorem ZT.narrow {A B : Nat → Prop} {U : State} {H : Heap} (h : ZT A U H) (hAB : ∀ q, B q → A q) : ZT B U H := by
  obtain ⟨t, h1, h2⟩ := h
  exact ⟨t, h1.narrow hAB, h2.narrow hAB⟩
/-- the room of a method whose calls stand d deep -/
def rmD (d : Nat) : Room := { frames := d, cells := 0, slots := 0, locals := 40 * d }
/-- what a method's world is when it is called -/
def Wd (D : va_G) (tys : List (ClassId × FieldType)) (ws : va_W) (sz : Nat) (U : State) : Prop :=
  U.heap.size = sz ∧ va_P D vwCl ws U.heap ∧ va_K D vwCl tys U ∧ va_D (fun _ => True) ws ∧ NW U ∧ ZT (va_A ws sz) U U.heap
/-- a contract: with these arguments and this world it ends, for some u with psi u, with the value val u and the world wo u -/
def Ct (l : Launch) (y : MethodName) (w : List Cond) (rm : Room) (D : va_G) (tys : List (ClassId × FieldType)) (av : List Value) (ws : va_W) {S : Type} (psi : S → Prop) (val : S → Option Value) (wo : S → va_W) : Prop :=
  ∀ sz : Nat, Met l y w rm (va_Pc av (Wd D tys ws sz)) (fun _ st oc t => (∃ u : S, oc = .returned (val u) ∧ psi u ∧ va_P D vwCl (wo u) t.heap) ∧ va_F (va_A ws sz) st t) 0 0 (va_A ws sz)
abbrev EnvT : Type := Program × Env × State × MethodId × Array Value × List Frame × Method × Code × (State → Prop) × (Nat → Prop) × Nat
def J (l : Launch) (rm : Room) (D : va_G) (ε : EnvT) (ws : va_W) (pc : Nat) (lv : List (Nat × Value)) (st : List Value) : Prop :=
  match ε with
  | (p, e, s, m, args, below, meth, c, Q, A, nL) => ∀ (H : Heap) (locs : List Loc) (ls : Array Slot), va_P D vwCl ws H → va_D A ws → va_S A s.heap H locs → lv_has ls nL lv → W p l e rm s m args below meth c H locs 0 0 Q (F0 m pc ls st)
def En (D : va_G) (tys : List (ClassId × FieldType)) (ε : EnvT) (cc : ByteArray) (own : String) (Ts : List Cond) (ret : Option FieldType) : Prop :=
  match ε with
  | (p, _, s, m, args, _, meth, c, _, A, nL) => p.tables.exec = Jvm.exec ∧ c.code = cc ∧ c.maxLocals = nL ∧ s.vm.findClass own = some m.cls ∧ (∀ w ∈ Ts, w.before args s = true) ∧ meth.sig.returnType = ret ∧ meth.locks = false ∧ va_K D vwCl tys s ∧ (∀ q : Nat, s.heap.size ≤ q → A q) ∧ NW s ∧ ZT A s s.heap
/-- what the machine's end must be -/
def FinE (D : va_G) (ε : EnvT) {S : Type} (psi : S → Prop) (val : S → Option Value) (wo : S → va_W) : Prop :=
  match ε with
  | (_, _, s, _, args, below, _, _, Q, A, _) => Q = MQ below (fun _ st oc t => (∃ u : S, oc = .returned (val u) ∧ psi u ∧ va_P D vwCl (wo u) t.heap) ∧ va_F A st t) args s 0 0 A
theorem Ct.of {l : Launch} {y : MethodName} {w w' : List Cond} {rm : Room} {D : va_G} {tys : List (ClassId × FieldType)} {av : List Value} {ws : va_W} {S : Type} {psi : S → Prop} {val : S → Option Value} {wo : S → va_W} {cc : ByteArray} {maxL : Nat} {ret : Option FieldType}
    (hy : plainName y.cls = true) (hw : w = Cond.code y cc maxL ret :: w') {lv : List (Nat × Value)} (hn : (lg_sl av).length ≤ maxL) (hlv : lv_args 0 av = lv)
    (body : ∀ ε : EnvT, ε.2.2.2.2.2.2.2.2.2.2 = maxL → En D tys ε cc y.cls w ret → FinE D ε psi val wo → J l rm D ε ws 0 lv []) : Ct l y w rm D tys av ws psi val wo := by
  intro sz
  refine Met.ofW (cc := cc) (maxL := maxL) (ret := ret) hy hw ?_
  intro p e s m args below meth c s₁ B hml hv
  obtain ⟨rfl, hsz, hP, hK, hD0, hN, hZ⟩ := hv
  subst hsz
  have hD := hD0.self (sz := s.heap.size)
  have hx := B.exec
  have hb := B.bytes
  have hr := B.returns
  have hts := atoms_spec (ws := w) B.pre
  have hown : s.vm.findClass y.cls = some m.cls := findClass_of_methodNamed B.named
  have hlocks := B.notSynchronized
  have hl := lv_entry av (n := maxL) hn
  rw [lg_entry_eq]
  generalize (lg_sl av ++ List.replicate (maxL - (lg_sl av).length) Slot.unset).toArray = ls at hl ⊢
  rw [hlv] at hl
  have hA : ∀ q : Nat, s.heap.size ≤ q → va_A ws s.heap.size q := fun q h => Or.inr h
  exact body (p, e, s, m, av.toArray, below, meth, c, _, va_A ws s.heap.size, maxL) rfl ⟨hx, hb, hml, hown, hts, hr, hlocks, hK, hA, hN, hZ⟩ rfl s.heap [] ls hP hD va_S.rf hl
section Rules
variable {l : Launch} {rm : Room} {D : va_G} {tys : List (ClassId × FieldType)} {ε : EnvT} {cc : ByteArray} {own : String} {Ts : List Cond} {ret : Option FieldType} {ws : va_W} {pc : Nat} {lv : List (Nat × Value)} {st : List Value}

theorem j_iconst (E : En D tys ε cc own Ts ret) {z : Int} {v : Int32} (hdg : decode cc pc = .ok (.iconst z, 1)) (hv : Int32.ofInt z = v) (kk : J l rm D ε ws (pc + 1) lv (.int v :: st)) : J l rm D ε ws pc lv (st) := by
  obtain ⟨p, e, s, m, args, below, meth, c, Q, A, nL⟩ := ε
  obtain ⟨hx, hb, hml, hown, hts, hr, hlocks, hK, hA, hNW, hZ⟩ := E
  intro H locs ls hP hD hS hl
  exact lv_iconst hx hb hdg hv (kk H locs ls hP hD hS hl)
theorem j_bipush (E : En D tys ε cc own Ts ret) {z : Int} {v : Int32} (hdg : decode cc pc = .ok (.bipush z, 2)) (hv : (Int8.ofInt z).toInt32 = v) (kk : J l rm D ε ws (pc + 2) lv (.int v :: st)) : J l rm D ε ws pc lv (st) := by
  obtain ⟨p, e, s, m, args, below, meth, c, Q, A, nL⟩ := ε
  obtain ⟨hx, hb, hml, hown, hts, hr, hlocks, hK, hA, hNW, hZ⟩ := E
  intro H locs ls hP hD hS hl
  exact lv_bipush hx hb hdg hv (kk H locs ls hP hD hS hl)
theorem j_sipush (E : En D tys ε cc own Ts ret) {z : Int} {v : Int32} (hdg : decode cc pc = .ok (.sipush z, 3)) (hv : (Int16.ofInt z).toInt32 = v) (kk : J l rm D ε ws (pc + 3) lv (.int v :: st)) : J l rm D ε ws pc lv (st) := by
  obtain ⟨p, e, s, m, args, below, meth, c, Q, A, nL⟩ := ε
  obtain ⟨hx, hb, hml, hown, hts, hr, hlocks, hK, hA, hNW, hZ⟩ := E
  intro H locs ls hP hD hS hl
  exact lv_sipush hx hb hdg hv (kk H locs ls hP hD hS hl)
theorem j_lconst (E : En D tys ε cc own Ts ret) {z : Fin 2} {v : Int64} (hdg : decode cc pc = .ok (.lconst z, 1)) (hv : Int64.ofNat (z : Nat) = v) (kk : J l rm D ε ws (pc + 1) lv (.long v :: st)) : J l rm D ε ws pc lv (st) := by
  obtain ⟨p, e, s, m, args, below, meth, c, Q, A, nL⟩ := ε
  obtain ⟨hx, hb, hml, hown, hts, hr, hlocks, hK, hA, hNW, hZ⟩ := E
  intro H locs ls hP hD hS hl
  exact lv_lconst hx hb hdg hv (kk H locs ls hP hD hS hl)
theorem j_ldc (E : En D tys ε cc own Ts ret) {index : Nat} {v : Int32} (hc : Jvm.Cond.constant own index v ∈ Ts) (hdg : decode cc pc = .ok (.ldc index, 2)) (kk : J l rm D ε ws (pc + 2) lv (.int v :: st)) : J l rm D ε ws pc lv (st) := by
  obtain ⟨p, e, s, m, args, below, meth, c, Q, A, nL⟩ := ε
  obtain ⟨hx, hb, hml, hown, hts, hr, hlocks, hK, hA, hNW, hZ⟩ := E
  intro H locs ls hP hD hS hl
  exact lv_ldc hx hb hown (hts _ hc) hdg (kk H locs ls hP hD hS hl)
theorem j_ldc2 (E : En D tys ε cc own Ts ret) {index : Nat} {v : Int64} (hc : Jvm.Cond.constantLong own index v ∈ Ts) (hdg : decode cc pc = .ok (.ldc2_w index, 3)) (kk : J l rm D ε ws (pc + 3) lv (.long v :: st)) : J l rm D ε ws pc lv (st) := by
  obtain ⟨p, e, s, m, args, below, meth, c, Q, A, nL⟩ := ε
  obtain ⟨hx, hb, hml, hown, hts, hr, hlocks, hK, hA, hNW, hZ⟩ := E
  intro H locs ls hP hD hS hl
  exact lv_ldc2 hx hb hown (hts _ hc) hdg (kk H locs ls hP hD hS hl)
theorem j_iload_n (E : En D tys ε cc own Ts ret) (j : Nat) {q : Fin 4} {i : Nat} {x : Int32} (hdg : decode cc pc = .ok (.iload_n q, 1)) (hi : (q : Nat) = i) (hj : lv[j]? = some (i, .int x)) (kk : J l rm D ε ws (pc + 1) lv (.int x :: st)) : J l rm D ε ws pc lv (st) := by
  obtain ⟨p, e, s, m, args, below, meth, c, Q, A, nL⟩ := ε
  obtain ⟨hx, hb, hml, hown, hts, hr, hlocks, hK, hA, hNW, hZ⟩ := E
  intro H locs ls hP hD hS hl
  exact lv_iload_n hx hb hdg hi (lv_at hl j hj) (kk H locs ls hP hD hS hl)
theorem j_iload (E : En D tys ε cc own Ts ret) (j : Nat) {i : Nat} {x : Int32} (hdg : decode cc pc = .ok (.iload i, 2)) (hj : lv[j]? = some (i, .int x)) (kk : J l rm D ε ws (pc + 2) lv (.int x :: st)) : J l rm D ε ws pc lv (st) := by
  obtain ⟨p, e, s, m, args, below, meth, c, Q, A, nL⟩ := ε
  obtain ⟨hx, hb, hml, hown, hts, hr, hlocks, hK, hA, hNW, hZ⟩ := E
  intro H locs ls hP hD hS hl
  exact lv_iload hx hb hdg (lv_at hl j hj) (kk H locs ls hP hD hS hl)
theorem j_lload_n (E : En D tys ε cc own Ts ret) (j : Nat) {q : Fin 4} {i : Nat} {x : Int64} (hdg : decode cc pc = .ok (.lload_n q, 1)) (hi : (q : Nat) = i) (hj : lv[j]? = some (i, .long x)) (kk : J l rm D ε ws (pc + 1) lv (.long x :: st)) : J l rm D ε ws pc lv (st) := by
  obtain ⟨p, e, s, m, args, below, meth, c, Q, A, nL⟩ := ε
  obtain ⟨hx, hb, hml, hown, hts, hr, hlocks, hK, hA, hNW, hZ⟩ := E
  intro H locs ls hP hD hS hl
  exact lv_lload_n hx hb hdg hi (lv_at hl j hj) (kk H locs ls hP hD hS hl)
theorem j_lload (E : En D tys ε cc own Ts ret) (j : Nat) {i : Nat} {x : Int64} (hdg : decode cc pc = .ok (.lload i, 2)) (hj : lv[j]? = some (i, .long x)) (kk : J l rm D ε ws (pc + 2) lv (.long x :: st)) : J l rm D ε ws pc lv (st) := by
  obtain ⟨p, e, s, m, args, below, meth, c, Q, A, nL⟩ := ε
  obtain ⟨hx, hb, hml, hown, hts, hr, hlocks, hK, hA, hNW, hZ⟩ := E
  intro H locs ls hP hD hS hl
  exact lv_lload hx hb hdg (lv_at hl j hj) (kk H locs ls hP hD hS hl)
theorem j_aload_n (E : En D tys ε cc own Ts ret) (j : Nat) {q : Fin 4} {i : Nat} {x : Nat} (hdg : decode cc pc = .ok (.aload_n q, 1)) (hi : (q : Nat) = i) (hj : lv[j]? = some (i, .ref x)) (kk : J l rm D ε ws (pc + 1) lv (.ref x :: st)) : J l rm D ε ws pc lv (st) := by
  obtain ⟨p, e, s, m, args, below, meth, c, Q, A, nL⟩ := ε
  obtain ⟨hx, hb, hml, hown, hts, hr, hlocks, hK, hA, hNW, hZ⟩ := E
  intro H locs ls hP hD hS hl
  exact lv_aload_n hx hb hdg hi (lv_at hl j hj) (kk H locs ls hP hD hS hl)
theorem j_aload (E : En D tys ε cc own Ts ret) (j : Nat) {i : Nat} {x : Nat} (hdg : decode cc pc = .ok (.aload i, 2)) (hj : lv[j]? = some (i, .ref x)) (kk : J l rm D ε ws (pc + 2) lv (.ref x :: st)) : J l rm D ε ws pc lv (st) := by
  obtain ⟨p, e, s, m, args, below, meth, c, Q, A, nL⟩ := ε
  obtain ⟨hx, hb, hml, hown, hts, hr, hlocks, hK, hA, hNW, hZ⟩ := E
  intro H locs ls hP hD hS hl
  exact lv_aload hx hb hdg (lv_at hl j hj) (kk H locs ls hP hD hS hl)
theorem j_istore_n (E : En D tys ε cc own Ts ret) {q : Fin 4} {i : Nat} {x : Int32} (lv' : List (Nat × Value)) (hdg : decode cc pc = .ok (.istore_n q, 1)) (hi : (q : Nat) = i) (hn : i < ε.2.2.2.2.2.2.2.2.2.2) (hl2 : (i, Value.int x) :: lv.filter (fun q => !(q.1 == i) && !(q.1 + 1 == i && q.2.category == 2)) = lv') (kk : J l rm D ε ws (pc + 1) lv' (st)) : J l rm D ε ws pc lv (.int x :: st) := by
  obtain ⟨p, e, s, m, args, below, meth, c, Q, A, nL⟩ := ε
  obtain ⟨hx, hb, hml, hown, hts, hr, hlocks, hK, hA, hNW, hZ⟩ := E
  intro H locs ls hP hD hS hl
  exact lv_istore_n hx hb hdg hi hl hn hl2 (fun ls hl => kk H locs ls hP hD hS hl)
theorem j_istore (E : En D tys ε cc own Ts ret) {i : Nat} {x : Int32} (lv' : List (Nat × Value)) (hdg : decode cc pc = .ok (.istore i, 2)) (hn : i < ε.2.2.2.2.2.2.2.2.2.2) (hl2 : (i, Value.int x) :: lv.filter (fun q => !(q.1 == i) && !(q.1 + 1 == i && q.2.category == 2)) = lv') (kk : J l rm D ε ws (pc + 2) lv' (st)) : J l rm D ε ws pc lv (.int x :: st) := by
  obtain ⟨p, e, s, m, args, below, meth, c, Q, A, nL⟩ := ε
  obtain ⟨hx, hb, hml, hown, hts, hr, hlocks, hK, hA, hNW, hZ⟩ := E
  intro H locs ls hP hD hS hl
  exact lv_istore hx hb hdg hl hn hl2 (fun ls hl => kk H locs ls hP hD hS hl)
theorem j_lstore_n (E : En D tys ε cc own Ts ret) {q : Fin 4} {i : Nat} {x : Int64} (lv' : List (Nat × Value)) (hdg : decode cc pc = .ok (.lstore_n q, 1)) (hi : (q : Nat) = i) (hn : i + 1 < ε.2.2.2.2.2.2.2.2.2.2) (hl2 : (i, Value.long x) :: lv.filter (fun q => !(q.1 == i) && (!(q.1 == i + 1) && !(q.1 + 1 == i && q.2.category == 2))) = lv') (kk : J l rm D ε ws (pc + 1) lv' (st)) : J l rm D ε ws pc lv (.long x :: st) := by
  obtain ⟨p, e, s, m, args, below, meth, c, Q, A, nL⟩ := ε
  obtain ⟨hx, hb, hml, hown, hts, hr, hlocks, hK, hA, hNW, hZ⟩ := E
  intro H locs ls hP hD hS hl
  exact lv_lstore_n hx hb hdg hi hl hn hl2 (fun ls hl => kk H locs ls hP hD hS hl)
theorem j_lstore (E : En D tys ε cc own Ts ret) {i : Nat} {x : Int64} (lv' : List (Nat × Value)) (hdg : decode cc pc = .ok (.lstore i, 2)) (hn : i + 1 < ε.2.2.2.2.2.2.2.2.2.2) (hl2 : (i, Value.long x) :: lv.filter (fun q => !(q.1 == i) && (!(q.1 == i + 1) && !(q.1 + 1 == i && q.2.category == 2))) = lv') (kk : J l rm D ε ws (pc + 2) lv' (st)) : J l rm D ε ws pc lv (.long x :: st) := by
  obtain ⟨p, e, s, m, args, below, meth, c, Q, A, nL⟩ := ε
  obtain ⟨hx, hb, hml, hown, hts, hr, hlocks, hK, hA, hNW, hZ⟩ := E
  intro H locs ls hP hD hS hl
  exact lv_lstore hx hb hdg hl hn hl2 (fun ls hl => kk H locs ls hP hD hS hl)
theorem j_astore_n (E : En D tys ε cc own Ts ret) {q : Fin 4} {i : Nat} {x : Nat} (lv' : List (Nat × Value)) (hdg : decode cc pc = .ok (.astore_n q, 1)) (hi : (q : Nat) = i) (hn : i < ε.2.2.2.2.2.2.2.2.2.2) (hl2 : (i, Value.ref x) :: lv.filter (fun q => !(q.1 == i) && !(q.1 + 1 == i && q.2.category == 2)) = lv') (kk : J l rm D ε ws (pc + 1) lv' (st)) : J l rm D ε ws pc lv (.ref x :: st) := by
  obtain ⟨p, e, s, m, args, below, meth, c, Q, A, nL⟩ := ε
  obtain ⟨hx, hb, hml, hown, hts, hr, hlocks, hK, hA, hNW, hZ⟩ := E
  intro H locs ls hP hD hS hl
  exact lv_astore_n hx hb hdg hi hl hn hl2 (fun ls hl => kk H locs ls hP hD hS hl)
theorem j_astore (E : En D tys ε cc own Ts ret) {i : Nat} {x : Nat} (lv' : List (Nat × Value)) (hdg : decode cc pc = .ok (.astore i, 2)) (hn : i < ε.2.2.2.2.2.2.2.2.2.2) (hl2 : (i, Value.ref x) :: lv.filter (fun q => !(q.1 == i) && !(q.1 + 1 == i && q.2.category == 2)) = lv') (kk : J l rm D ε ws (pc + 2) lv' (st)) : J l rm D ε ws pc lv (.ref x :: st) := by
  obtain ⟨p, e, s, m, args, below, meth, c, Q, A, nL⟩ := ε
  obtain ⟨hx, hb, hml, hown, hts, hr, hlocks, hK, hA, hNW, hZ⟩ := E
  intro H locs ls hP hD hS hl
  exact lv_astore hx hb hdg hl hn hl2 (fun ls hl => kk H locs ls hP hD hS hl)
theorem j_iinc (E : En D tys ε cc own Ts ret) (j : Nat) {i : Nat} {z : Int} {x v : Int32} (lv' : List (Nat × Value)) (hdg : decode cc pc = .ok (.iinc i z, 3)) (hj : lv[j]? = some (i, .int x)) (hv : x + Int32.ofInt z = v) (hn : i < ε.2.2.2.2.2.2.2.2.2.2) (hl2 : (i, Value.int v) :: lv.filter (fun q => !(q.1 == i) && !(q.1 + 1 == i && q.2.category == 2)) = lv') (kk : J l rm D ε ws (pc + 3) lv' (st)) : J l rm D ε ws pc lv (st) := by
  obtain ⟨p, e, s, m, args, below, meth, c, Q, A, nL⟩ := ε
  obtain ⟨hx, hb, hml, hown, hts, hr, hlocks, hK, hA, hNW, hZ⟩ := E
  intro H locs ls hP hD hS hl
  exact lv_iinc hx hb hdg hl hj hv hn hl2 (fun ls hl => kk H locs ls hP hD hS hl)
theorem j_iadd (E : En D tys ε cc own Ts ret) {x y : Int32} (hdg : decode cc pc = .ok (.iadd, 1)) (kk : J l rm D ε ws (pc + 1) lv (.int (x + y) :: st)) : J l rm D ε ws pc lv (.int y :: .int x :: st) := by
  obtain ⟨p, e, s, m, args, below, meth, c, Q, A, nL⟩ := ε
  obtain ⟨hx, hb, hml, hown, hts, hr, hlocks, hK, hA, hNW, hZ⟩ := E
  intro H locs ls hP hD hS hl
  exact lv_iadd hx hb hdg (kk H locs ls hP hD hS hl)
theorem j_isub (E : En D tys ε cc own Ts ret) {x y : Int32} (hdg : decode cc pc = .ok (.isub, 1)) (kk : J l rm D ε ws (pc + 1) lv (.int (x - y) :: st)) : J l rm D ε ws pc lv (.int y :: .int x :: st) := by
  obtain ⟨p, e, s, m, args, below, meth, c, Q, A, nL⟩ := ε
  obtain ⟨hx, hb, hml, hown, hts, hr, hlocks, hK, hA, hNW, hZ⟩ := E
  intro H locs ls hP hD hS hl
  exact lv_isub hx hb hdg (kk H locs ls hP hD hS hl)
theorem j_imul (E : En D tys ε cc own Ts ret) {x y : Int32} (hdg : decode cc pc = .ok (.imul, 1)) (kk : J l rm D ε ws (pc + 1) lv (.int (x * y) :: st)) : J l rm D ε ws pc lv (.int y :: .int x :: st) := by
  obtain ⟨p, e, s, m, args, below, meth, c, Q, A, nL⟩ := ε
  obtain ⟨hx, hb, hml, hown, hts, hr, hlocks, hK, hA, hNW, hZ⟩ := E
  intro H locs ls hP hD hS hl
  exact lv_imul hx hb hdg (kk H locs ls hP hD hS hl)
theorem j_iand (E : En D tys ε cc own Ts ret) {x y : Int32} (hdg : decode cc pc = .ok (.iand, 1)) (kk : J l rm D ε ws (pc + 1) lv (.int (x &&& y) :: st)) : J l rm D ε ws pc lv (.int y :: .int x :: st) := by
  obtain ⟨p, e, s, m, args, below, meth, c, Q, A, nL⟩ := ε
  obtain ⟨hx, hb, hml, hown, hts, hr, hlocks, hK, hA, hNW, hZ⟩ := E
  intro H locs ls hP hD hS hl
  exact lv_iand hx hb hdg (kk H locs ls hP hD hS hl)
theorem j_ior (E : En D tys ε cc own Ts ret) {x y : Int32} (hdg : decode cc pc = .ok (.ior, 1)) (kk : J l rm D ε ws (pc + 1) lv (.int (x ||| y) :: st)) : J l rm D ε ws pc lv (.int y :: .int x :: st) := by
  obtain ⟨p, e, s, m, args, below, meth, c, Q, A, nL⟩ := ε
  obtain ⟨hx, hb, hml, hown, hts, hr, hlocks, hK, hA, hNW, hZ⟩ := E
  intro H locs ls hP hD hS hl
  exact lv_ior hx hb hdg (kk H locs ls hP hD hS hl)
theorem j_ixor (E : En D tys ε cc own Ts ret) {x y : Int32} (hdg : decode cc pc = .ok (.ixor, 1)) (kk : J l rm D ε ws (pc + 1) lv (.int (x ^^^ y) :: st)) : J l rm D ε ws pc lv (.int y :: .int x :: st) := by
  obtain ⟨p, e, s, m, args, below, meth, c, Q, A, nL⟩ := ε
  obtain ⟨hx, hb, hml, hown, hts, hr, hlocks, hK, hA, hNW, hZ⟩ := E
  intro H locs ls hP hD hS hl
  exact lv_ixor hx hb hdg (kk H locs ls hP hD hS hl)
theorem j_ishl (E : En D tys ε cc own Ts ret) {x y : Int32} (hdg : decode cc pc = .ok (.ishl, 1)) (kk : J l rm D ε ws (pc + 1) lv (.int (x <<< (y &&& 31)) :: st)) : J l rm D ε ws pc lv (.int y :: .int x :: st) := by
  obtain ⟨p, e, s, m, args, below, meth, c, Q, A, nL⟩ := ε
  obtain ⟨hx, hb, hml, hown, hts, hr, hlocks, hK, hA, hNW, hZ⟩ := E
  intro H locs ls hP hD hS hl
  exact lv_ishl hx hb hdg (kk H locs ls hP hD hS hl)
theorem j_ishr (E : En D tys ε cc own Ts ret) {x y : Int32} (hdg : decode cc pc = .ok (.ishr, 1)) (kk : J l rm D ε ws (pc + 1) lv (.int (x >>> (y &&& 31)) :: st)) : J l rm D ε ws pc lv (.int y :: .int x :: st) := by
  obtain ⟨p, e, s, m, args, below, meth, c, Q, A, nL⟩ := ε
  obtain ⟨hx, hb, hml, hown, hts, hr, hlocks, hK, hA, hNW, hZ⟩ := E
  intro H locs ls hP hD hS hl
  exact lv_ishr hx hb hdg (kk H locs ls hP hD hS hl)
theorem j_ladd (E : En D tys ε cc own Ts ret) {x y : Int64} (hdg : decode cc pc = .ok (.ladd, 1)) (kk : J l rm D ε ws (pc + 1) lv (.long (x + y) :: st)) : J l rm D ε ws pc lv (.long y :: .long x :: st) := by
  obtain ⟨p, e, s, m, args, below, meth, c, Q, A, nL⟩ := ε
  obtain ⟨hx, hb, hml, hown, hts, hr, hlocks, hK, hA, hNW, hZ⟩ := E
  intro H locs ls hP hD hS hl
  exact lv_ladd hx hb hdg (kk H locs ls hP hD hS hl)
theorem j_lmul (E : En D tys ε cc own Ts ret) {x y : Int64} (hdg : decode cc pc = .ok (.lmul, 1)) (kk : J l rm D ε ws (pc + 1) lv (.long (x * y) :: st)) : J l rm D ε ws pc lv (.long y :: .long x :: st) := by
  obtain ⟨p, e, s, m, args, below, meth, c, Q, A, nL⟩ := ε
  obtain ⟨hx, hb, hml, hown, hts, hr, hlocks, hK, hA, hNW, hZ⟩ := E
  intro H locs ls hP hD hS hl
  exact lv_lmul hx hb hdg (kk H locs ls hP hD hS hl)
theorem j_lor (E : En D tys ε cc own Ts ret) {x y : Int64} (hdg : decode cc pc = .ok (.lor, 1)) (kk : J l rm D ε ws (pc + 1) lv (.long (x ||| y) :: st)) : J l rm D ε ws pc lv (.long y :: .long x :: st) := by
  obtain ⟨p, e, s, m, args, below, meth, c, Q, A, nL⟩ := ε
  obtain ⟨hx, hb, hml, hown, hts, hr, hlocks, hK, hA, hNW, hZ⟩ := E
  intro H locs ls hP hD hS hl
  exact lv_lor hx hb hdg (kk H locs ls hP hD hS hl)
theorem j_idiv (E : En D tys ε cc own Ts ret) {x y : Int32} (hne : ¬ y = 0) (hdg : decode cc pc = .ok (.idiv, 1)) (kk : J l rm D ε ws (pc + 1) lv (.int (x / y) :: st)) : J l rm D ε ws pc lv (.int y :: .int x :: st) := by
  obtain ⟨p, e, s, m, args, below, meth, c, Q, A, nL⟩ := ε
  obtain ⟨hx, hb, hml, hown, hts, hr, hlocks, hK, hA, hNW, hZ⟩ := E
  intro H locs ls hP hD hS hl
  exact lv_idiv hx hb hdg hne (kk H locs ls hP hD hS hl)
theorem j_irem (E : En D tys ε cc own Ts ret) {x y : Int32} (hne : ¬ y = 0) (hdg : decode cc pc = .ok (.irem, 1)) (kk : J l rm D ε ws (pc + 1) lv (.int (x - x / y * y) :: st)) : J l rm D ε ws pc lv (.int y :: .int x :: st) := by
  obtain ⟨p, e, s, m, args, below, meth, c, Q, A, nL⟩ := ε
  obtain ⟨hx, hb, hml, hown, hts, hr, hlocks, hK, hA, hNW, hZ⟩ := E
  intro H locs ls hP hD hS hl
  exact lv_irem hx hb hdg hne (kk H locs ls hP hD hS hl)
theorem j_ldiv (E : En D tys ε cc own Ts ret) {x y : Int64} (hne : ¬ y = 0) (hdg : decode cc pc = .ok (.ldiv, 1)) (kk : J l rm D ε ws (pc + 1) lv (.long (x / y) :: st)) : J l rm D ε ws pc lv (.long y :: .long x :: st) := by
  obtain ⟨p, e, s, m, args, below, meth, c, Q, A, nL⟩ := ε
  obtain ⟨hx, hb, hml, hown, hts, hr, hlocks, hK, hA, hNW, hZ⟩ := E
  intro H locs ls hP hD hS hl
  exact lv_ldiv hx hb hdg hne (kk H locs ls hP hD hS hl)
theorem j_lushr (E : En D tys ε cc own Ts ret) {x v : Int64} {y : Int32} (hv : (x.toUInt64 >>> (y.toInt64.toUInt64 &&& Int64.toUInt64 63)).toInt64 = v) (hdg : decode cc pc = .ok (.lushr, 1)) (kk : J l rm D ε ws (pc + 1) lv (.long v :: st)) : J l rm D ε ws pc lv (.int y :: .long x :: st) := by
  obtain ⟨p, e, s, m, args, below, meth, c, Q, A, nL⟩ := ε
  obtain ⟨hx, hb, hml, hown, hts, hr, hlocks, hK, hA, hNW, hZ⟩ := E
  intro H locs ls hP hD hS hl
  exact lv_lushr hx hb hdg hv (kk H locs ls hP hD hS hl)
theorem j_lshl (E : En D tys ε cc own Ts ret) {x v : Int64} {y : Int32} (hv : x <<< (y.toInt64 &&& 63) = v) (hdg : decode cc pc = .ok (.lshl, 1)) (kk : J l rm D ε ws (pc + 1) lv (.long v :: st)) : J l rm D ε ws pc lv (.int y :: .long x :: st) := by
  obtain ⟨p, e, s, m, args, below, meth, c, Q, A, nL⟩ := ε
  obtain ⟨hx, hb, hml, hown, hts, hr, hlocks, hK, hA, hNW, hZ⟩ := E
  intro H locs ls hP hD hS hl
  exact lv_lshl hx hb hdg hv (kk H locs ls hP hD hS hl)
theorem j_i2l (E : En D tys ε cc own Ts ret) {x : Int32} (hdg : decode cc pc = .ok (.i2l, 1)) (kk : J l rm D ε ws (pc + 1) lv (.long x.toInt64 :: st)) : J l rm D ε ws pc lv (.int x :: st) := by
  obtain ⟨p, e, s, m, args, below, meth, c, Q, A, nL⟩ := ε
  obtain ⟨hx, hb, hml, hown, hts, hr, hlocks, hK, hA, hNW, hZ⟩ := E
  intro H locs ls hP hD hS hl
  exact lv_i2l hx hb hdg rfl (kk H locs ls hP hD hS hl)
theorem j_l2i (E : En D tys ε cc own Ts ret) {x : Int64} (hdg : decode cc pc = .ok (.l2i, 1)) (kk : J l rm D ε ws (pc + 1) lv (.int x.toInt32 :: st)) : J l rm D ε ws pc lv (.long x :: st) := by
  obtain ⟨p, e, s, m, args, below, meth, c, Q, A, nL⟩ := ε
  obtain ⟨hx, hb, hml, hown, hts, hr, hlocks, hK, hA, hNW, hZ⟩ := E
  intro H locs ls hP hD hS hl
  exact lv_l2i hx hb hdg rfl (kk H locs ls hP hD hS hl)
theorem j_i2c (E : En D tys ε cc own Ts ret) {x : Int32} (hdg : decode cc pc = .ok (.i2c, 1)) (kk : J l rm D ε ws (pc + 1) lv (.int (x.toUInt32 % 65536).toInt32 :: st)) : J l rm D ε ws pc lv (.int x :: st) := by
  obtain ⟨p, e, s, m, args, below, meth, c, Q, A, nL⟩ := ε
  obtain ⟨hx, hb, hml, hown, hts, hr, hlocks, hK, hA, hNW, hZ⟩ := E
  intro H locs ls hP hD hS hl
  exact lv_i2c hx hb hdg rfl (kk H locs ls hP hD hS hl)
theorem j_lcmp (E : En D tys ε cc own Ts ret) {x y : Int64} (hdg : decode cc pc = .ok (.lcmp, 1)) (kk : J l rm D ε ws (pc + 1) lv (.int (lg_cmp x y) :: st)) : J l rm D ε ws pc lv (.long y :: .long x :: st) := by
  obtain ⟨p, e, s, m, args, below, meth, c, Q, A, nL⟩ := ε
  obtain ⟨hx, hb, hml, hown, hts, hr, hlocks, hK, hA, hNW, hZ⟩ := E
  intro H locs ls hP hD hS hl
  exact W.lcmp hx hb hdg (kk H locs ls hP hD hS hl)
theorem j_dup (E : En D tys ε cc own Ts ret) {va : Value} (hva : va.category = 1) (hdg : decode cc pc = .ok (.dup, 1)) (kk : J l rm D ε ws (pc + 1) lv (va :: va :: st)) : J l rm D ε ws pc lv (va :: st) := by
  obtain ⟨p, e, s, m, args, below, meth, c, Q, A, nL⟩ := ε
  obtain ⟨hx, hb, hml, hown, hts, hr, hlocks, hK, hA, hNW, hZ⟩ := E
  intro H locs ls hP hD hS hl
  exact lv_dup hx hb hdg hva (kk H locs ls hP hD hS hl)
theorem j_dup2 (E : En D tys ε cc own Ts ret) {va vb : Value} (hva : va.category = 1) (hvb : vb.category = 1) (hdg : decode cc pc = .ok (.dup2, 1)) (kk : J l rm D ε ws (pc + 1) lv (va :: vb :: va :: vb :: st)) : J l rm D ε ws pc lv (va :: vb :: st) := by
  obtain ⟨p, e, s, m, args, below, meth, c, Q, A, nL⟩ := ε
  obtain ⟨hx, hb, hml, hown, hts, hr, hlocks, hK, hA, hNW, hZ⟩ := E
  intro H locs ls hP hD hS hl
  exact lv_dup2_11 hx hb hdg hva hvb (kk H locs ls hP hD hS hl)
theorem j_pop (E : En D tys ε cc own Ts ret) {va : Value} (hva : va.category = 1) (hdg : decode cc pc = .ok (.pop, 1)) (kk : J l rm D ε ws (pc + 1) lv (st)) : J l rm D ε ws pc lv (va :: st) := by
  obtain ⟨p, e, s, m, args, below, meth, c, Q, A, nL⟩ := ε
  obtain ⟨hx, hb, hml, hown, hts, hr, hlocks, hK, hA, hNW, hZ⟩ := E
  intro H locs ls hP hD hS hl
  exact lv_pop hx hb hdg hva (kk H locs ls hP hD hS hl)
theorem j_if_eq (E : En D tys ε cc own Ts ret) {x : Int32} {off : Int} (tgt : Nat) (hdg : decode cc pc = .ok (.ifCond .eq off, 3)) (ht : (pc : Int) + off = (tgt : Int)) (kt : x = 0 → J l rm D ε ws (tgt) lv (st)) (kf : ¬ x = 0 → J l rm D ε ws (pc + 3) lv (st)) : J l rm D ε ws pc lv (.int x :: st) := by
  obtain ⟨p, e, s, m, args, below, meth, c, Q, A, nL⟩ := ε
  obtain ⟨hx, hb, hml, hown, hts, hr, hlocks, hK, hA, hNW, hZ⟩ := E
  intro H locs ls hP hD hS hl
  exact lv_if_eq hx hb hdg ht (fun hc => kt hc H locs ls hP hD hS hl) (fun hc => kf hc H locs ls hP hD hS hl)
theorem j_icmp_eq (E : En D tys ε cc own Ts ret) {x y : Int32} {off : Int} (tgt : Nat) (hdg : decode cc pc = .ok (.if_icmp .eq off, 3)) (ht : (pc : Int) + off = (tgt : Int)) (kt : x = y → J l rm D ε ws (tgt) lv (st)) (kf : ¬ x = y → J l rm D ε ws (pc + 3) lv (st)) : J l rm D ε ws pc lv (.int y :: .int x :: st) := by
  obtain ⟨p, e, s, m, args, below, meth, c, Q, A, nL⟩ := ε
  obtain ⟨hx, hb, hml, hown, hts, hr, hlocks, hK, hA, hNW, hZ⟩ := E
  intro H locs ls hP hD hS hl
  exact lv_icmp_eq hx hb hdg ht (fun hc => kt hc H locs ls hP hD hS hl) (fun hc => kf hc H locs ls hP hD hS hl)
theorem j_if_ne (E : En D tys ε cc own Ts ret) {x : Int32} {off : Int} (tgt : Nat) (hdg : decode cc pc = .ok (.ifCond .ne off, 3)) (ht : (pc : Int) + off = (tgt : Int)) (kt : ¬ x = 0 → J l rm D ε ws (tgt) lv (st)) (kf : x = 0 → J l rm D ε ws (pc + 3) lv (st)) : J l rm D ε ws pc lv (.int x :: st) := by
  obtain ⟨p, e, s, m, args, below, meth, c, Q, A, nL⟩ := ε
  obtain ⟨hx, hb, hml, hown, hts, hr, hlocks, hK, hA, hNW, hZ⟩ := E
  intro H locs ls hP hD hS hl
  exact lv_if_ne hx hb hdg ht (fun hc => kt hc H locs ls hP hD hS hl) (fun hc => kf hc H locs ls hP hD hS hl)
theorem j_icmp_ne (E : En D tys ε cc own Ts ret) {x y : Int32} {off : Int} (tgt : Nat) (hdg : decode cc pc = .ok (.if_icmp .ne off, 3)) (ht : (pc : Int) + off = (tgt : Int)) (kt : ¬ x = y → J l rm D ε ws (tgt) lv (st)) (kf : x = y → J l rm D ε ws (pc + 3) lv (st)) : J l rm D ε ws pc lv (.int y :: .int x :: st) := by
  obtain ⟨p, e, s, m, args, below, meth, c, Q, A, nL⟩ := ε
  obtain ⟨hx, hb, hml, hown, hts, hr, hlocks, hK, hA, hNW, hZ⟩ := E
  intro H locs ls hP hD hS hl
  exact lv_icmp_ne hx hb hdg ht (fun hc => kt hc H locs ls hP hD hS hl) (fun hc => kf hc H locs ls hP hD hS hl)
theorem j_if_lt (E : En D tys ε cc own Ts ret) {x : Int32} {off : Int} (tgt : Nat) (hdg : decode cc pc = .ok (.ifCond .lt off, 3)) (ht : (pc : Int) + off = (tgt : Int)) (kt : x < 0 → J l rm D ε ws (tgt) lv (st)) (kf : ¬ x < 0 → J l rm D ε ws (pc + 3) lv (st)) : J l rm D ε ws pc lv (.int x :: st) := by
  obtain ⟨p, e, s, m, args, below, meth, c, Q, A, nL⟩ := ε
  obtain ⟨hx, hb, hml, hown, hts, hr, hlocks, hK, hA, hNW, hZ⟩ := E
  intro H locs ls hP hD hS hl
  exact lv_if_lt hx hb hdg ht (fun hc => kt hc H locs ls hP hD hS hl) (fun hc => kf hc H locs ls hP hD hS hl)
theorem j_icmp_lt (E : En D tys ε cc own Ts ret) {x y : Int32} {off : Int} (tgt : Nat) (hdg : decode cc pc = .ok (.if_icmp .lt off, 3)) (ht : (pc : Int) + off = (tgt : Int)) (kt : x < y → J l rm D ε ws (tgt) lv (st)) (kf : ¬ x < y → J l rm D ε ws (pc + 3) lv (st)) : J l rm D ε ws pc lv (.int y :: .int x :: st) := by
  obtain ⟨p, e, s, m, args, below, meth, c, Q, A, nL⟩ := ε
  obtain ⟨hx, hb, hml, hown, hts, hr, hlocks, hK, hA, hNW, hZ⟩ := E
  intro H locs ls hP hD hS hl
  exact lv_icmp_lt hx hb hdg ht (fun hc => kt hc H locs ls hP hD hS hl) (fun hc => kf hc H locs ls hP hD hS hl)
theorem j_if_ge (E : En D tys ε cc own Ts ret) {x : Int32} {off : Int} (tgt : Nat) (hdg : decode cc pc = .ok (.ifCond .ge off, 3)) (ht : (pc : Int) + off = (tgt : Int)) (kt : 0 ≤ x → J l rm D ε ws (tgt) lv (st)) (kf : ¬ 0 ≤ x → J l rm D ε ws (pc + 3) lv (st)) : J l rm D ε ws pc lv (.int x :: st) := by
  obtain ⟨p, e, s, m, args, below, meth, c, Q, A, nL⟩ := ε
  obtain ⟨hx, hb, hml, hown, hts, hr, hlocks, hK, hA, hNW, hZ⟩ := E
  intro H locs ls hP hD hS hl
  exact lv_if_ge hx hb hdg ht (fun hc => kt hc H locs ls hP hD hS hl) (fun hc => kf hc H locs ls hP hD hS hl)
theorem j_icmp_ge (E : En D tys ε cc own Ts ret) {x y : Int32} {off : Int} (tgt : Nat) (hdg : decode cc pc = .ok (.if_icmp .ge off, 3)) (ht : (pc : Int) + off = (tgt : Int)) (kt : y ≤ x → J l rm D ε ws (tgt) lv (st)) (kf : ¬ y ≤ x → J l rm D ε ws (pc + 3) lv (st)) : J l rm D ε ws pc lv (.int y :: .int x :: st) := by
  obtain ⟨p, e, s, m, args, below, meth, c, Q, A, nL⟩ := ε
  obtain ⟨hx, hb, hml, hown, hts, hr, hlocks, hK, hA, hNW, hZ⟩ := E
  intro H locs ls hP hD hS hl
  exact lv_icmp_ge hx hb hdg ht (fun hc => kt hc H locs ls hP hD hS hl) (fun hc => kf hc H locs ls hP hD hS hl)
theorem j_if_gt (E : En D tys ε cc own Ts ret) {x : Int32} {off : Int} (tgt : Nat) (hdg : decode cc pc = .ok (.ifCond .gt off, 3)) (ht : (pc : Int) + off = (tgt : Int)) (kt : 0 < x → J l rm D ε ws (tgt) lv (st)) (kf : ¬ 0 < x → J l rm D ε ws (pc + 3) lv (st)) : J l rm D ε ws pc lv (.int x :: st) := by
  obtain ⟨p, e, s, m, args, below, meth, c, Q, A, nL⟩ := ε
  obtain ⟨hx, hb, hml, hown, hts, hr, hlocks, hK, hA, hNW, hZ⟩ := E
  intro H locs ls hP hD hS hl
  exact lv_if_gt hx hb hdg ht (fun hc => kt hc H locs ls hP hD hS hl) (fun hc => kf hc H locs ls hP hD hS hl)
theorem j_icmp_gt (E : En D tys ε cc own Ts ret) {x y : Int32} {off : Int} (tgt : Nat) (hdg : decode cc pc = .ok (.if_icmp .gt off, 3)) (ht : (pc : Int) + off = (tgt : Int)) (kt : y < x → J l rm D ε ws (tgt) lv (st)) (kf : ¬ y < x → J l rm D ε ws (pc + 3) lv (st)) : J l rm D ε ws pc lv (.int y :: .int x :: st) := by
  obtain ⟨p, e, s, m, args, below, meth, c, Q, A, nL⟩ := ε
  obtain ⟨hx, hb, hml, hown, hts, hr, hlocks, hK, hA, hNW, hZ⟩ := E
  intro H locs ls hP hD hS hl
  exact lv_icmp_gt hx hb hdg ht (fun hc => kt hc H locs ls hP hD hS hl) (fun hc => kf hc H locs ls hP hD hS hl)
theorem j_if_le (E : En D tys ε cc own Ts ret) {x : Int32} {off : Int} (tgt : Nat) (hdg : decode cc pc = .ok (.ifCond .le off, 3)) (ht : (pc : Int) + off = (tgt : Int)) (kt : x ≤ 0 → J l rm D ε ws (tgt) lv (st)) (kf : ¬ x ≤ 0 → J l rm D ε ws (pc + 3) lv (st)) : J l rm D ε ws pc lv (.int x :: st) := by
  obtain ⟨p, e, s, m, args, below, meth, c, Q, A, nL⟩ := ε
  obtain ⟨hx, hb, hml, hown, hts, hr, hlocks, hK, hA, hNW, hZ⟩ := E
  intro H locs ls hP hD hS hl
  exact lv_if_le hx hb hdg ht (fun hc => kt hc H locs ls hP hD hS hl) (fun hc => kf hc H locs ls hP hD hS hl)
theorem j_icmp_le (E : En D tys ε cc own Ts ret) {x y : Int32} {off : Int} (tgt : Nat) (hdg : decode cc pc = .ok (.if_icmp .le off, 3)) (ht : (pc : Int) + off = (tgt : Int)) (kt : x ≤ y → J l rm D ε ws (tgt) lv (st)) (kf : ¬ x ≤ y → J l rm D ε ws (pc + 3) lv (st)) : J l rm D ε ws pc lv (.int y :: .int x :: st) := by
  obtain ⟨p, e, s, m, args, below, meth, c, Q, A, nL⟩ := ε
  obtain ⟨hx, hb, hml, hown, hts, hr, hlocks, hK, hA, hNW, hZ⟩ := E
  intro H locs ls hP hD hS hl
  exact lv_icmp_le hx hb hdg ht (fun hc => kt hc H locs ls hP hD hS hl) (fun hc => kf hc H locs ls hP hD hS hl)
theorem j_goto (E : En D tys ε cc own Ts ret) {off : Int} (tgt : Nat) (hdg : decode cc pc = .ok (.goto off, 3)) (ht : (pc : Int) + off = (tgt : Int)) (kk : J l rm D ε ws (tgt) lv (st)) : J l rm D ε ws pc lv (st) := by
  obtain ⟨p, e, s, m, args, below, meth, c, Q, A, nL⟩ := ε
  obtain ⟨hx, hb, hml, hown, hts, hr, hlocks, hK, hA, hNW, hZ⟩ := E
  intro H locs ls hP hD hS hl
  exact lv_goto hx hb hdg ht (kk H locs ls hP hD hS hl)
theorem j_iald (E : En D tys ε cc own Ts ret) (q0 t0 : Nat) {a : Nat} {cA : ClassId} {n : Nat} {f : Nat → Int32} {i : Int32} (ha : ws[q0]? = some (a, .inl (cA, n, .inl f))) (ht : tys[t0]? = some (cA, .int)) (hin : vp_in i n) (hdg : decode cc pc = .ok (.iaload, 1)) (kk : J l rm D ε ws (pc + 1) lv (.int (f i.toNatClampNeg) :: st)) : J l rm D ε ws pc lv (.int i :: .ref a :: st) := by
  obtain ⟨p, e, s, m, args, below, meth, c, Q, A, nL⟩ := ε
  obtain ⟨hx, hb, hml, hown, hts, hr, hlocks, hK, hA, hNW, hZ⟩ := E
  intro H locs ls hP hD hS hl
  exact va_iald hx hb hK hP q0 t0 ha ht hin hdg (kk H locs ls hP hD hS hl)
theorem j_cald (E : En D tys ε cc own Ts ret) (q0 t0 : Nat) {a : Nat} {cA : ClassId} {n : Nat} {f : Nat → Int32} {i : Int32} (ha : ws[q0]? = some (a, .inl (cA, n, .inl f))) (ht : tys[t0]? = some (cA, .char)) (hin : vp_in i n) (hdg : decode cc pc = .ok (.caload, 1)) (kk : J l rm D ε ws (pc + 1) lv (.int (f i.toNatClampNeg) :: st)) : J l rm D ε ws pc lv (.int i :: .ref a :: st) := by
  obtain ⟨p, e, s, m, args, below, meth, c, Q, A, nL⟩ := ε
  obtain ⟨hx, hb, hml, hown, hts, hr, hlocks, hK, hA, hNW, hZ⟩ := E
  intro H locs ls hP hD hS hl
  exact va_cald hx hb hK hP q0 t0 ha ht hin hdg (kk H locs ls hP hD hS hl)
theorem j_lald (E : En D tys ε cc own Ts ret) (q0 t0 : Nat) {a : Nat} {cA : ClassId} {n : Nat} {f : Nat → Int64} {i : Int32} (ha : ws[q0]? = some (a, .inl (cA, n, .inr (.inl f)))) (ht : tys[t0]? = some (cA, .long)) (hin : vp_in i n) (hdg : decode cc pc = .ok (.laload, 1)) (kk : J l rm D ε ws (pc + 1) lv (.long (f i.toNatClampNeg) :: st)) : J l rm D ε ws pc lv (.int i :: .ref a :: st) := by
  obtain ⟨p, e, s, m, args, below, meth, c, Q, A, nL⟩ := ε
  obtain ⟨hx, hb, hml, hown, hts, hr, hlocks, hK, hA, hNW, hZ⟩ := E
  intro H locs ls hP hD hS hl
  exact va_lald hx hb hK hP q0 t0 ha ht hin hdg (kk H locs ls hP hD hS hl)
theorem j_iast (E : En D tys ε cc own Ts ret) (q0 t0 : Nat) {a : Nat} {cA : ClassId} {n : Nat} {f : Nat → Int32} {i : Int32} {x : Int32} {ws' : va_W} (ha : ws[q0]? = some (a, .inl (cA, n, .inl (f)))) (ht : tys[t0]? = some (cA, .int)) (hin : vp_in i n) (hw : ws.set q0 (a, .inl (cA, n, .inl (upd f i.toNatClampNeg x))) = ws') (hdg : decode cc pc = .ok (.iastore, 1)) (kk : J l rm D ε ws' (pc + 1) lv (st)) : J l rm D ε ws pc lv (.int x :: .int i :: .ref a :: st) := by
  obtain ⟨p, e, s, m, args, below, meth, c, Q, A, nL⟩ := ε
  obtain ⟨hx, hb, hml, hown, hts, hr, hlocks, hK, hA, hNW, hZ⟩ := E
  intro H locs ls hP hD hS hl
  exact va_iast hx hb hK hP hD hS q0 t0 ha ht hin hdg (fun H locs hP hD hS => kk H locs ls (hw ▸ hP) (hw ▸ hD) hS hl)
theorem j_cast (E : En D tys ε cc own Ts ret) (q0 t0 : Nat) {a : Nat} {cA : ClassId} {n : Nat} {f : Nat → Int32} {i : Int32} {x : Int32} {ws' : va_W} (ha : ws[q0]? = some (a, .inl (cA, n, .inl (f)))) (ht : tys[t0]? = some (cA, .char)) (hin : vp_in i n) (hw : ws.set q0 (a, .inl (cA, n, .inl (upd f i.toNatClampNeg (vp_nar .char x)))) = ws') (hdg : decode cc pc = .ok (.castore, 1)) (kk : J l rm D ε ws' (pc + 1) lv (st)) : J l rm D ε ws pc lv (.int x :: .int i :: .ref a :: st) := by
  obtain ⟨p, e, s, m, args, below, meth, c, Q, A, nL⟩ := ε
  obtain ⟨hx, hb, hml, hown, hts, hr, hlocks, hK, hA, hNW, hZ⟩ := E
  intro H locs ls hP hD hS hl
  exact va_cast hx hb hK hP hD hS q0 t0 ha ht hin hdg (fun H locs hP hD hS => kk H locs ls (hw ▸ hP) (hw ▸ hD) hS hl)
theorem j_last (E : En D tys ε cc own Ts ret) (q0 t0 : Nat) {a : Nat} {cA : ClassId} {n : Nat} {f : Nat → Int64} {i : Int32} {x : Int64} {ws' : va_W} (ha : ws[q0]? = some (a, .inl (cA, n, .inr (.inl (f))))) (ht : tys[t0]? = some (cA, .long)) (hin : vp_in i n) (hw : ws.set q0 (a, .inl (cA, n, .inr (.inl (vp_updL f i.toNatClampNeg x)))) = ws') (hdg : decode cc pc = .ok (.lastore, 1)) (kk : J l rm D ε ws' (pc + 1) lv (st)) : J l rm D ε ws pc lv (.long x :: .int i :: .ref a :: st) := by
  obtain ⟨p, e, s, m, args, below, meth, c, Q, A, nL⟩ := ε
  obtain ⟨hx, hb, hml, hown, hts, hr, hlocks, hK, hA, hNW, hZ⟩ := E
  intro H locs ls hP hD hS hl
  exact va_last hx hb hK hP hD hS q0 t0 ha ht hin hdg (fun H locs hP hD hS => kk H locs ls (hw ▸ hP) (hw ▸ hD) hS hl)
theorem j_aald (E : En D tys ε cc own Ts ret) (q0 t0 : Nat) {a : Nat} {cA : ClassId} {C : String} {n : Nat} {f : Nat → Option Nat} {i : Int32} {v : Value} (ha : ws[q0]? = some (a, .inl (cA, n, .inr (.inr (.inr (.inr f)))))) (ht : tys[t0]? = some (cA, .object C)) (hin : vp_in i n) (hv : va_rf (f i.toNatClampNeg) = v) (hdg : decode cc pc = .ok (.aaload, 1)) (kk : J l rm D ε ws (pc + 1) lv (v :: st)) : J l rm D ε ws pc lv (.int i :: .ref a :: st) := by
  obtain ⟨p, e, s, m, args, below, meth, c, Q, A, nL⟩ := ε
  obtain ⟨hx, hb, hml, hown, hts, hr, hlocks, hK, hA, hNW, hZ⟩ := E
  intro H locs ls hP hD hS hl
  exact va_aldq hx hb hK hP q0 t0 ha ht hin hdg (by rw [hv]; exact kk H locs ls hP hD hS hl)
theorem j_get (E : En D tys ε cc own Ts ret) {C : String} {T : u_T} {N ci index : Nat} (hin : ∀ w ∈ u_ws C T N, w ∈ Ts) (q0 : Nat) {a : Nat} {fs : List Value} (he : ws[q0]? = some (a, .inr (ci, fs))) (hc : vwCl[ci]? = some (C, T, N)) (kf : Nat) (hk : kf < N) (hlink : Cond.fieldLink own index (T kf).1 (T kf).2.1 (T kf).2.2.1 ∈ Ts) {v : Value} (hv : fs[kf]? = some v) (hdg : decode cc pc = .ok (.getfield index, 3)) (kk : J l rm D ε ws (pc + 3) lv (v :: st)) : J l rm D ε ws pc lv (.ref a :: st) := by
  obtain ⟨p, e, s, m, args, below, meth, c, Q, A, nL⟩ := ε
  obtain ⟨hx, hb, hml, hown, hts, hr, hlocks, hK, hA, hNW, hZ⟩ := E
  intro H locs ls hP hD hS hl
  exact va_get hx hb hts hin hown hK hP q0 he hc kf hk (hts _ hlink) (fun _ h => h) hv hdg (kk H locs ls hP hD hS hl)
theorem j_put (E : En D tys ε cc own Ts ret) {C : String} {T : u_T} {N ci index : Nat} (hin : ∀ w ∈ u_ws C T N, w ∈ Ts) (ty0 : Nat → FieldType) (hty : ∀ k, k < N → parseFieldDescriptor (T k).2.2.1 = some (ty0 k)) (hnm : ∀ a, a < N → ∀ b, b < N → a ≠ b → (T a).2.1 ≠ (T b).2.1) (q0 : Nat) {a : Nat} {fs : List Value} (he : ws[q0]? = some (a, .inr (ci, fs))) (hc : vwCl[ci]? = some (C, T, N)) (kf : Nat) (hk : kf < N) (hlink : Cond.fieldLink own index (T kf).1 (T kf).2.1 (T kf).2.2.1 ∈ Ts) (hfin : (T kf).2.2.2 = false) {v : Value} (hn : narrow (ty0 kf) v = v) (hfit : fits (ty0 kf) v = true) (hl3 : kf < fs.length) {ws' : va_W} (hw : ws.set q0 (a, .inr (ci, fs.set kf v)) = ws') (hdg : decode cc pc = .ok (.putfield index, 3)) (kk : J l rm D ε ws' (pc + 3) lv (st)) : J l rm D ε ws pc lv (v :: .ref a :: st) := by
  obtain ⟨p, e, s, m, args, below, meth, c, Q, A, nL⟩ := ε
  obtain ⟨hx, hb, hml, hown, hts, hr, hlocks, hK, hA, hNW, hZ⟩ := E
  intro H locs ls hP hD hS hl
  exact va_put hx hb hts hin ty0 hty hnm hown hK hP hD hS q0 he hc kf hk (hts _ hlink) (fun _ h => h) hfin (hty kf hk) hn hfit hl3 hdg (fun H locs hP hD hS => kk H locs ls (hw ▸ hP) (hw ▸ hD) hS hl)
theorem j_topi {x : Int32} (kk : ∀ y : Int32, y = x → J l rm D ε ws (pc) lv (.int y :: st)) : J l rm D ε ws (pc) lv (.int x :: st) := kk x rfl
theorem j_topl {x : Int64} (kk : ∀ y : Int64, y = x → J l rm D ε ws (pc) lv (.long y :: st)) : J l rm D ε ws (pc) lv (.long x :: st) := kk x rfl
theorem j_topE {x y : Int32} (h : x = y) (kk : J l rm D ε ws (pc) lv (.int y :: st)) : J l rm D ε ws (pc) lv (.int x :: st) := by rw [h]; exact kk
theorem j_topEl {x y : Int64} (h : x = y) (kk : J l rm D ε ws (pc) lv (.long y :: st)) : J l rm D ε ws (pc) lv (.long x :: st) := by rw [h]; exact kk
theorem j_ws {ws' : va_W} (h : ws = ws') (kk : J l rm D ε ws' (pc) lv (st)) : J l rm D ε ws (pc) lv (st) := by rw [h]; exact kk
theorem j_lv (ks : List Nat) {lv' : List (Nat × Value)} (h : lv_pick lv ks = lv') (kk : J l rm D ε ws (pc) lv' (st)) : J l rm D ε ws (pc) lv (st) := by
  obtain ⟨p, e, s, m, args, below, meth, c, Q, A, nL⟩ := ε
  intro H locs ls hP hD hS hl
  exact kk H locs ls hP hD hS (lv_sub hl ks h)
theorem j_iret {S : Type} {psi : S → Prop} {val : S → Option Value} {wo : S → va_W} (E : En D tys ε cc own Ts (some .int)) (F : FinE D ε psi val wo) {v : Int32} (hdg : decode cc pc = .ok (.ireturn, 1)) (u : S) (hu : psi u) (hv : val u = some (.int v)) (hw : wo u = ws) : J l rm D ε ws pc lv [.int v] := by
  obtain ⟨p, e, s, m, args, below, meth, c, Q, A, nL⟩ := ε
  obtain ⟨hx, hb, hml, hown, hts, hr, hlocks, hK, hA, hNW, hZ⟩ := E
  intro H locs ls hP hD hS hl
  have hQ : Q = _ := F
  subst hQ
  exact W.iret hx hb hr (fun t ht hW => ⟨⟨u, by rw [hv], hu, by rw [hw, ht]; exact hP⟩, hS.F ht⟩) hS.2.2 hdg
theorem j_zret {ty : FieldType} {S : Type} {psi : S → Prop} {val : S → Option Value} {wo : S → va_W} (E : En D tys ε cc own Ts (some ty)) (F : FinE D ε psi val wo) {v : Int32} (hn : narrow ty (.int v) = .int v) (hdg : decode cc pc = .ok (.ireturn, 1)) (u : S) (hu : psi u) (hv : val u = some (.int v)) (hw : wo u = ws) : J l rm D ε ws pc lv [.int v] := by
  obtain ⟨p, e, s, m, args, below, meth, c, Q, A, nL⟩ := ε
  obtain ⟨hx, hb, hml, hown, hts, hr, hlocks, hK, hA, hNW, hZ⟩ := E
  intro H locs ls hP hD hS hl
  have hQ : Q = _ := F
  subst hQ
  exact W.zret hx hb hr hn (fun t ht hW => ⟨⟨u, by rw [hv], hu, by rw [hw, ht]; exact hP⟩, hS.F ht⟩) hS.2.2 hdg
theorem j_lret {S : Type} {psi : S → Prop} {val : S → Option Value} {wo : S → va_W} (E : En D tys ε cc own Ts (some .long)) (F : FinE D ε psi val wo) {v : Int64} (hdg : decode cc pc = .ok (.lreturn, 1)) (u : S) (hu : psi u) (hv : val u = some (.long v)) (hw : wo u = ws) : J l rm D ε ws pc lv [.long v] := by
  obtain ⟨p, e, s, m, args, below, meth, c, Q, A, nL⟩ := ε
  obtain ⟨hx, hb, hml, hown, hts, hr, hlocks, hK, hA, hNW, hZ⟩ := E
  intro H locs ls hP hD hS hl
  have hQ : Q = _ := F
  subst hQ
  exact W.lret hx hb hr (fun t ht hW => ⟨⟨u, by rw [hv], hu, by rw [hw, ht]; exact hP⟩, hS.F ht⟩) hS.2.2 hdg
theorem j_vret {S : Type} {psi : S → Prop} {val : S → Option Value} {wo : S → va_W} (E : En D tys ε cc own Ts none) (F : FinE D ε psi val wo) (hdg : decode cc pc = .ok (.return_, 1)) (u : S) (hu : psi u) (hv : val u = none) (hw : wo u = ws) : J l rm D ε ws pc lv [] := by
  obtain ⟨p, e, s, m, args, below, meth, c, Q, A, nL⟩ := ε
  obtain ⟨hx, hb, hml, hown, hts, hr, hlocks, hK, hA, hNW, hZ⟩ := E
  intro H locs ls hP hD hS hl
  have hQ : Q = _ := F
  subst hQ
  exact W.vret hx hb hr (fun t ht hW => ⟨⟨u, by rw [hv], hu, by rw [hw, ht]; exact hP⟩, hS.F ht⟩) hS.2.2 hdg
def plc : va_W → List Nat → va_W → va_W
  | ws, i :: is, x :: xs => plc (ws.set i x) is xs
  | ws, _, _ => ws
theorem plc_in : ∀ (is : List Nat) (ws xs : va_W) (adr : ∀ (j i : Nat) (x : Nat × va_E), is[j]? = some i → xs[j]? = some x → ∃ e, ws[i]? = some (x.1, e)), (plc ws is xs).map (fun q => q.1) = ws.map (fun q => q.1) := by
  intro is
  induction is with
  | nil => intro ws xs _; cases xs <;> rfl
  | cons i is ih =>
    intro ws xs adr
    cases xs with
    | nil => rfl
    | cons x xs =>
      obtain ⟨e, he⟩ := adr 0 i x rfl rfl
      have hm : (ws.set i x).map (fun q => q.1) = ws.map (fun q => q.1) := by
        rw [List.map_set]
        apply List.ext_getElem?
        intro k
        rw [List.getElem?_set]
        by_cases hk : i = k
        · subst hk
          have hl : i < ws.length := (List.getElem?_eq_some_iff.mp he).1
          rw [if_pos rfl, if_pos (by simpa using hl), List.getElem?_map, he]
          rfl
        · simp [hk]
      show (plc (ws.set i x) is xs).map (fun q => q.1) = _
      rw [ih (ws.set i x) xs, hm]
      intro j i2 x2 h1 h2
      obtain ⟨e2, he2⟩ := adr (j + 1) i2 x2 h1 h2
      by_cases hk : i = i2
      · subst hk
        rw [he] at he2
        have hl : i < ws.length := (List.getElem?_eq_some_iff.mp he).1
        have h3 : x.1 = x2.1 := by have := Option.some.inj he2; exact congrArg (fun q => q.1) this
        refine ⟨x.2, ?_⟩
        rw [List.getElem?_set_self hl, ← h3]
      · exact ⟨e2, by rw [List.getElem?_set_ne hk]; exact he2⟩
theorem plc_at : ∀ (is : List Nat) (ws xs : va_W) (k : Nat) (q : Nat × va_E), (plc ws is xs)[k]? = some q → (∃ j : Nat, is[j]? = some k ∧ xs[j]? = some q) ∨ (ws[k]? = some q ∧ ∀ (j : Nat) (x : Nat × va_E), is[j]? = some k → xs[j]? = some x → False) := by
  intro is
  induction is with
  | nil =>
    intro ws xs k q h
    refine Or.inr ⟨by cases xs <;> exact h, fun j x hj => ?_⟩
    simp at hj
  | cons i is ih =>
    intro ws xs k q h
    cases xs with
    | nil => exact Or.inr ⟨h, fun j x hj hx => by simp at hx⟩
    | cons x xs =>
      rcases ih (ws.set i x) xs k q h with ⟨j, h1, h2⟩ | ⟨h1, h2⟩
      · exact Or.inl ⟨j + 1, h1, h2⟩
      · by_cases hk : i = k
        · subst hk
          by_cases hl : i < ws.length
          · rw [List.getElem?_set_self hl] at h1
            exact Or.inl ⟨0, rfl, h1⟩
          · rw [List.getElem?_eq_none (by simp; omega)] at h1
            cases h1
        · rw [List.getElem?_set_ne hk] at h1
          refine Or.inr ⟨h1, fun j y hj hy => ?_⟩
          cases j with
          | zero => exact hk (Option.some.inj hj)
          | succ j => exact h2 j y hj hy
theorem va_D_adr {A : Nat → Prop} {ws ws' : va_W} (h : va_D A ws) (ha : ws'.map (fun q => q.1) = ws.map (fun q => q.1)) : va_D A ws' := by
  have key : ∀ (k : Nat) (q : Nat × va_E), ws'[k]? = some q → ∃ q', ws[k]? = some q' ∧ q'.1 = q.1 := by
    intro k q hq
    have h1 : (ws'.map (fun q => q.1))[k]? = some q.1 := by rw [List.getElem?_map, hq]; rfl
    rw [ha, List.getElem?_map] at h1
    cases hw : ws[k]? with
    | none => rw [hw] at h1; cases h1
    | some q' => rw [hw] at h1; exact ⟨q', rfl, Option.some.inj h1⟩
  refine ⟨fun i j p q hp hq hpq => ?_, fun k q hq => ?_⟩
  · obtain ⟨p', h1, h2⟩ := key i p hp
    obtain ⟨q', h3, h4⟩ := key j q hq
    exact h.1 i j p' q' h1 h3 (by rw [h2, h4, hpq])
  · obtain ⟨q', h1, h2⟩ := key k q hq
    rw [← h2]
    exact h.2 k q' h1
theorem va_place {A0 : Nat → Prop} {cl : List vw_C} {ws wc w1 : va_W} {H H1 : Heap} (hP : va_P D cl ws H) (hD : va_D A0 ws) (isC : List Nat) (hC : isC.map (fun i => ws[i]?) = wc.map some) (hadr : w1.map (fun q => q.1) = wc.map (fun q => q.1))
    (hk : ∀ q : Nat, q < H.size → ¬ va_A wc H.size q → H1[q]? = H[q]?) (hP1 : va_P D cl w1 H1) : va_P D cl (plc ws isC w1) H1 ∧ va_D A0 (plc ws isC w1) := by
  have hlen : isC.length = w1.length := by
    have h1 := congrArg List.length hC
    have h2 := congrArg List.length hadr
    simp at h1 h2
    omega
  have at' : ∀ (j i : Nat), isC[j]? = some i → ∃ q, wc[j]? = some q ∧ ws[i]? = some q := by
    intro j i hi
    have h1 : (isC.map (fun i => ws[i]?))[j]? = some ws[i]? := by rw [List.getElem?_map, hi]; rfl
    rw [hC, List.getElem?_map] at h1
    cases hw : wc[j]? with
    | none => rw [hw] at h1; cases h1
    | some q => rw [hw] at h1; exact ⟨q, rfl, (Option.some.inj h1).symm⟩
  have adr : ∀ (j i : Nat) (x : Nat × va_E), isC[j]? = some i → w1[j]? = some x → ∃ e, ws[i]? = some (x.1, e) := by
    intro j i x hi hx
    obtain ⟨q, h1, h2⟩ := at' j i hi
    have h3 : (w1.map (fun q => q.1))[j]? = some x.1 := by rw [List.getElem?_map, hx]; rfl
    rw [hadr, List.getElem?_map, h1] at h3
    have h4 : q.1 = x.1 := Option.some.inj h3
    exact ⟨q.2, by rw [h2, ← h4]⟩
  refine ⟨fun k q hq => ?_, va_D_adr hD (plc_in isC ws w1 adr)⟩
  rcases plc_at isC ws w1 k q hq with ⟨j, h1, h2⟩ | ⟨h1, h2⟩
  · exact hP1 j q h2
  · have hl := (hP k q h1).lt
    refine (hP k q h1).kept (hk q.1 hl (fun h => ?_))
    rcases h with ⟨j, e, h⟩ | h
    · have hjl : j < isC.length := by
        have h5 := (List.getElem?_eq_some_iff.mp h).1
        have h6 := congrArg List.length hadr
        simp at h6
        omega
      have hi : isC[j]? = some isC[j] := List.getElem?_eq_getElem hjl
      obtain ⟨q', h3, h4⟩ := at' j _ hi
      rw [h] at h3
      have h7 := Option.some.inj h3
      have hij := hD.1 k isC[j] q q' h1 h4 (by rw [← h7])
      have hw1 : j < w1.length := by omega
      exact h2 j w1[j] (by rw [hi, hij]) (List.getElem?_eq_getElem hw1)
    · omega
/-- behind a call: the callee's places bear what it left -/
theorem j_behind {p : Program} {e : Env} {s : State} {m : MethodId} {args : Array Value} {below : List Frame} {meth : Method} {c : Code} {Q : State → Prop} {A : Nat → Prop} {H : Heap} {locs : List Loc} {ls : Array Slot} {st0 rest : List Value} {S : Type} {psi : S → Prop} {val : S → Option Value} {wo : S → va_W} {wc : va_W}
    (hr : va_Run p l e rm s m args below meth c H locs 0 0 0 0 (F0 m pc ls st0) rest (fun st oc t => (∃ u : S, oc = .returned (val u) ∧ psi u ∧ va_P D vwCl (wo u) t.heap) ∧ va_F (va_A wc H.size) st t) (va_A wc H.size))
    (hP : va_P D vwCl ws H) (hD : va_D A ws) (hS : va_S A s.heap H locs) (isC : List Nat) (hC : isC.map (fun i => ws[i]?) = wc.map some) (hadr : ∀ u : S, (wo u).map (fun q => q.1) = wc.map (fun q => q.1)) (hF : ∀ q, va_A wc H.size q → A q)
    (kk : ∀ (u : S), psi u → ∀ (H1 : Heap) (locs1 : List Loc), va_P D vwCl (plc ws isC (wo u)) H1 → va_D A (plc ws isC (wo u)) → va_S A s.heap H1 locs1 → W p l e rm s m args below meth c H1 locs1 0 0 Q (F0 m (pc + 3) ls ((val u).toList ++ rest))) :
    W p l e rm s m args below meth c H locs 0 0 Q (F0 m pc ls st0) := by
  intro T hT X
  obtain ⟨v, st₀, t, T', L, h0, X', hL, e1, e2, ⟨⟨u, hv, hp, hb⟩, hz, hk⟩, stp⟩ := hr T hT X
  have hv2 : v = val u := by cases hv; rfl
  subst hv2
  rw [h0] at hz hk
  rw [← e1] at hz hk hb
  obtain ⟨g1, g2⟩ := va_place hP hD isC hC (hadr u) hk hb
  obtain ⟨t2, a1, b1⟩ := kk u hp T'.heap (locs ++ L) g1 g2
    ⟨Nat.le_trans hS.1 hz, fun q h1 h2 => by rw [hk q (Nat.lt_of_lt_of_le h1 hS.1) (fun z => h2 (hF q z))]; exact hS.2.1 q h1 h2, fun q hq => by
      rcases List.mem_append.mp hq with h | h
      · exact hS.2.2 q h
      · exact hF _ (hL q h)⟩ T' rfl X'
  exact ⟨t2, stp t2 a1, b1⟩
theorem Wd.calling {ws0 : va_W} {sz : Nat} {av : List Value} : FrameBlind (va_Pc av (Wd D tys ws0 sz)) := by
  intro a U g mk h
  obtain ⟨q0, q1, qP, qK, qD, qN, qZ⟩ := h
  exact ⟨q0, q1, qP, va_K.moved (u := U) (U := U.calling g mk a) (Vm.Alike.refl U.vm) qK, qD, NW.same (s := U) rfl qN, ZT.moved (u := U) (U := U.calling g mk a) (Vm.Alike.refl U.vm) qZ⟩
theorem Wd.at {wc : va_W} {s : State} {A : Nat → Prop} {H : Heap} {locs : List Loc} (hK : va_K D vwCl tys s) (hN : NW s) (hZ : ZT A s s.heap) (hS : va_S A s.heap H locs) (hPc : va_P D vwCl wc H) (hDc : va_D A wc) (hF : ∀ q, va_A wc H.size q → A q) (U : State) (hU : U.heap = H) (hW : s.WarmedH U.vm) : Wd D tys wc H.size U := by
  subst hU
  exact ⟨rfl, hPc, va_K.moved hW.alike hK, hDc.weaken (fun _ _ _ _ => trivial), hN.warm hW, (((hZ.kept hS.2.1).narrow hF).moved hW.alike)⟩

theorem va_D_cut {A : Nat → Prop} {ws0 wc : va_W} (hD : va_D A ws0) (isC : List Nat) (hn : va_nd isC = true) (hC : isC.map (fun i => ws0[i]?) = wc.map some) : va_D A wc := hD.sub isC hn hC

theorem j_S (E : En D tys ε cc own Ts ret) {S : Type} {psi : S → Prop} {val : S → Option Value} {wo : S → va_W} {wc : va_W} {y : MethodName} {bytes : ByteArray} {maxL : Nat} {rt : Option FieldType} {w w' : List Cond} {rmc : Room} {As rest : List Value} {n index : Nat} (hM : Ct l y w rmc D tys As wc psi val wo) (hG : GoodIn Ts (va_wsS own index y w)) (hd : y.cls ≠ "java/lang/invoke/MethodHandle" ∧ y.cls ≠ "java/lang/invoke/VarHandle" ∧ (parseMethodDescriptor y.desc).map (fun d => d.parameters.length) = some n) (hw : w = Cond.code y bytes maxL rt :: w') (hrm : rmc.cells = 0 ∧ rmc.slots = 0) (hR : rmc.frames + 1 ≤ rm.frames ∧ 8 + (maxL + 11) + rmc.locals ≤ rm.locals) (hn : As.length = n) (isC : List Nat) (hC : isC.map (fun i => ws[i]?) = wc.map some) (hadr : ∀ u : S, (wo u).map (fun q => q.1) = wc.map (fun q => q.1)) (hst : st = As.reverse ++ rest) (hcat : (rest.map fun v => v.category).sum ≤ 8) (hdg : decode cc pc = .ok (.invokestatic index, 3)) (kk : ∀ u : S, psi u → J l rm D ε (plc ws isC (wo u)) (pc + 3) lv ((val u).toList ++ rest)) (hnd : va_nd isC = true) : J l rm D ε ws pc lv st := by
  obtain ⟨p, e, s, m, args, below, meth, c, Q, A, nL⟩ := ε
  obtain ⟨hx, hb, hml, hown, hts, hr, hlocks, hK, hA, hNW, hZ⟩ := E
  intro H locs ls hP hD hS hl
  subst hst
  have hPc : va_P D vwCl wc H := hP.sub isC (by
    have h9 := congrArg (List.filterMap id) hC
    simpa [List.filterMap_map, Function.comp_def] using h9)
  have hFc := va_free (wc := wc) hD hS hA isC hC
  have hDc := va_D_cut hD isC hnd hC
  exact j_behind (va_runS ⟨hx, hb, hml, hown, hts⟩ (hM H.size) (va_cwS n hts hG hw hrm.1 hrm.2 hd hR) ⟨Wd.calling, fun U hU hW => ⟨rfl, Wd.at hK hNW hZ hS hPc hDc hFc U hU hW⟩⟩ rfl hn hl.1 rfl (lv_room hcat) hdg ⟨Nat.zero_le _, Nat.zero_le _⟩) hP hD hS isC hC hadr hFc (fun u hu H locs hP hD hS => kk u hu H locs ls hP hD hS hl)
theorem j_SN (E : En D tys ε cc own Ts ret) {S : Type} {psi : S → Prop} {val : S → Option Value} {wo : S → va_W} {wc : va_W} {y : MethodName} {bytes : ByteArray} {maxL : Nat} {rt : Option FieldType} {w w' : List Cond} {rmc : Room} {As rest : List Value} {n index : Nat} (hM : Ct l y w rmc D tys As wc psi val wo) (hG : GoodIn Ts w) (hd : y.cls ≠ "java/lang/invoke/MethodHandle" ∧ y.cls ≠ "java/lang/invoke/VarHandle" ∧ (parseMethodDescriptor y.desc).map (fun d => d.parameters.length) = some n) (hq : (own, index, y) ∈ nwL) (hini : Cond.initialized y.cls ∈ Ts) (hsta : Cond.static y ∈ Ts) (hw : w = Cond.code y bytes maxL rt :: w') (hrm : rmc.cells = 0 ∧ rmc.slots = 0) (hR : rmc.frames + 1 ≤ rm.frames ∧ 8 + (maxL + 11) + rmc.locals ≤ rm.locals) (hn : As.length = n) (isC : List Nat) (hC : isC.map (fun i => ws[i]?) = wc.map some) (hadr : ∀ u : S, (wo u).map (fun q => q.1) = wc.map (fun q => q.1)) (hst : st = As.reverse ++ rest) (hcat : (rest.map fun v => v.category).sum ≤ 8) (hdg : decode cc pc = .ok (.invokestatic index, 3)) (kk : ∀ u : S, psi u → J l rm D ε (plc ws isC (wo u)) (pc + 3) lv ((val u).toList ++ rest)) (hnd : va_nd isC = true) : J l rm D ε ws pc lv st := by
  obtain ⟨p, e, s, m, args, below, meth, c, Q, A, nL⟩ := ε
  obtain ⟨hx, hb, hml, hown, hts, hr, hlocks, hK, hA, hNW, hZ⟩ := E
  intro H locs ls hP hD hS hl
  subst hst
  have hPc : va_P D vwCl wc H := hP.sub isC (by
    have h9 := congrArg (List.filterMap id) hC
    simpa [List.filterMap_map, Function.comp_def] using h9)
  have hFc := va_free (wc := wc) hD hS hA isC hC
  have hDc := va_D_cut hD isC hnd hC
  exact j_behind (va_runSN ⟨hx, hb, hml, hown, hts⟩ (hM H.size) ⟨va_cnB n hts hG hw hrm.1 hrm.2 (hNW _ hq) (hts _ hini) hd hR, hts _ hsta, trivial⟩ ⟨Wd.calling, fun U hU hW => ⟨rfl, Wd.at hK hNW hZ hS hPc hDc hFc U hU hW⟩⟩ rfl hn hl.1 rfl (lv_room hcat) hdg ⟨Nat.zero_le _, Nat.zero_le _⟩) hP hD hS isC hC hadr hFc (fun u hu H locs hP hD hS => kk u hu H locs ls hP hD hS hl)
theorem j_V (E : En D tys ε cc own Ts ret) {S : Type} {psi : S → Prop} {val : S → Option Value} {wo : S → va_W} {wc : va_W} {y : MethodName} {bytes : ByteArray} {maxL : Nat} {rt : Option FieldType} {w w' : List Cond} {rmc : Room} {As rest : List Value} {n index : Nat} {b : Nat} {C : String} {T : u_T} {N ci : Nat} {fs : List Value} (hM : Ct l y w rmc D tys (.ref b :: As) wc psi val wo) (hG : GoodIn Ts (wsV own index C y w)) (hd : y.cls = C ∧ y.cls ≠ "java/lang/invoke/MethodHandle" ∧ y.cls ≠ "java/lang/invoke/VarHandle" ∧ (parseMethodDescriptor y.desc).map (fun d => d.parameters.length) = some n) (hw : w = Cond.code y bytes maxL rt :: w') (hrm : rmc.cells = 0 ∧ rmc.slots = 0) (hR : rmc.frames + 1 ≤ rm.frames ∧ 8 + (maxL + 11) + rmc.locals ≤ rm.locals) (hn : As.length = n) (isC : List Nat) (hC : isC.map (fun i => ws[i]?) = wc.map some) (hadr : ∀ u : S, (wo u).map (fun q => q.1) = wc.map (fun q => q.1)) (rq : Nat) (hrq : wc[rq]? = some (b, .inr (ci, fs))) (hrc : vwCl[ci]? = some (C, T, N)) (hst : st = As.reverse ++ .ref b :: rest) (hcat : (rest.map fun v => v.category).sum ≤ 8) (hdg : decode cc pc = .ok (.invokevirtual index, 3)) (kk : ∀ u : S, psi u → J l rm D ε (plc ws isC (wo u)) (pc + 3) lv ((val u).toList ++ rest)) (hnd : va_nd isC = true) : J l rm D ε ws pc lv st := by
  obtain ⟨p, e, s, m, args, below, meth, c, Q, A, nL⟩ := ε
  obtain ⟨hx, hb, hml, hown, hts, hr, hlocks, hK, hA, hNW, hZ⟩ := E
  intro H locs ls hP hD hS hl
  subst hst
  have hPc : va_P D vwCl wc H := hP.sub isC (by
    have h9 := congrArg (List.filterMap id) hC
    simpa [List.filterMap_map, Function.comp_def] using h9)
  have hFc := va_free (wc := wc) hD hS hA isC hC
  have hDc := va_D_cut hD isC hnd hC
  exact j_behind (va_runV ⟨hx, hb, hml, hown, hts⟩ (hM H.size) (cwV n hts hG hw hrm.1 hrm.2 hd hR) ⟨Wd.calling, va_recv (q := (C, T, N)) hK hPc hrc hrq, fun U hU hW => ⟨rfl, Wd.at hK hNW hZ hS hPc hDc hFc U hU hW⟩⟩ rfl hn hl.1 rfl (lv_room hcat) hdg ⟨Nat.zero_le _, Nat.zero_le _⟩) hP hD hS isC hC hadr hFc (fun u hu H locs hP hD hS => kk u hu H locs ls hP hD hS hl)
end Rules
end JBase
