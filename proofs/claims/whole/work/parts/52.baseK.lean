section JKBase
def JK (l : Launch) (rm : Room) (D : va_G) (ε : EnvT) (kC nS : Nat) (ws : va_W) (pc : Nat) (lv : List (Nat × Value)) (st : List Value) : Prop :=
  match ε with
  | (p, e, s, m, args, below, meth, c, Q, A, nL) => ∀ (H : Heap) (locs : List Loc) (ls : Array Slot), va_P D vwCl ws H → va_D A ws → va_S A s.heap H locs → lv_has ls nL lv → W p l e rm s m args below meth c H locs kC nS Q (F0 m pc ls st)
def rmK (d k n : Nat) : Room := { frames := d, cells := k, slots := n, locals := 40 * d }
/-- a contract of a method that makes k cells of n slots; X: what is known besides -/
def CtK (l : Launch) (y : MethodName) (w : List Cond) (rm : Room) (D : va_G) (tys : List (ClassId × FieldType)) (X : (Nat → Prop) → State → Heap → Prop) (av : List Value) (ws : va_W) (k n : Nat) {S : Type} (psi : S → Prop) (val : S → Option Value) (wo : S → va_W) : Prop :=
  ∀ sz : Nat, Met l y w rm (va_Pc av (fun U => Wd D tys ws sz U ∧ X (va_A ws sz) U U.heap)) (fun _ st oc t => (∃ u : S, oc = .returned (val u) ∧ psi u ∧ va_P D vwCl (wo u) t.heap ∧ va_D (va_A ws sz) (wo u)) ∧ va_F (va_A ws sz) st t) k n (va_A ws sz)
def FinK (D : va_G) (ε : EnvT) (k n : Nat) {S : Type} (psi : S → Prop) (val : S → Option Value) (wo : S → va_W) : Prop :=
  match ε with
  | (_, _, s, _, args, below, _, _, Q, A, _) => Q = MQ below (fun _ st oc t => (∃ u : S, oc = .returned (val u) ∧ psi u ∧ va_P D vwCl (wo u) t.heap ∧ va_D A (wo u)) ∧ va_F A st t) args s k n A
def XE (ε : EnvT) (X : (Nat → Prop) → State → Heap → Prop) (nm : String) : Prop :=
  match ε with
  | (_, _, s, _, _, _, meth, _, _, A, _) => meth.name = nm ∧ X A s s.heap
theorem CtK.of {l : Launch} {y : MethodName} {w w' : List Cond} {rm : Room} {D : va_G} {tys : List (ClassId × FieldType)} {X : (Nat → Prop) → State → Heap → Prop} {av : List Value} {ws : va_W} {k n : Nat} {S : Type} {psi : S → Prop} {val : S → Option Value} {wo : S → va_W} {cc : ByteArray} {maxL : Nat} {ret : Option FieldType}
    (hy : plainName y.cls = true) (hw : w = Cond.code y cc maxL ret :: w') {lv : List (Nat × Value)} (hn : (lg_sl av).length ≤ maxL) (hlv : lv_args 0 av = lv)
    (body : ∀ ε : EnvT, ε.2.2.2.2.2.2.2.2.2.2 = maxL → En D tys ε cc y.cls w ret → FinK D ε k n psi val wo → XE ε X y.name → JK l rm D ε 0 0 ws 0 lv []) : CtK l y w rm D tys X av ws k n psi val wo := by
  intro sz
  refine Met.ofW (cc := cc) (maxL := maxL) (ret := ret) hy hw ?_
  intro p e s m args below meth c s₁ B hml hv
  obtain ⟨rfl, ⟨hsz, hP, hK, hD0, hN, hZ⟩, hX⟩ := hv
  subst hsz
  have hD := hD0.self (sz := s.heap.size)
  have hx := B.exec
  have hb := B.bytes
  have hr := B.returns
  have hts := atoms_spec (ws := w) B.pre
  have hown : s.vm.findClass y.cls = some m.cls := findClass_of_methodNamed B.named
  have hlocks := B.notSynchronized
  have hnm : meth.name = y.name := (name_of_methodNamed B.named B.method).1
  have hl := lv_entry av (n := maxL) hn
  rw [lg_entry_eq]
  generalize (lg_sl av ++ List.replicate (maxL - (lg_sl av).length) Slot.unset).toArray = ls at hl ⊢
  rw [hlv] at hl
  have hA : ∀ q : Nat, s.heap.size ≤ q → va_A ws s.heap.size q := fun q h => Or.inr h
  exact body (p, e, s, m, av.toArray, below, meth, c, _, va_A ws s.heap.size, maxL) rfl ⟨hx, hb, hml, hown, hts, hr, hlocks, hK, hA, hN, hZ⟩ rfl ⟨hnm, hX⟩ s.heap [] ls hP hD va_S.rf hl
section RulesK
variable {l : Launch} {rm : Room} {D : va_G} {tys : List (ClassId × FieldType)} {ε : EnvT} {cc : ByteArray} {own : String} {Ts : List Cond} {ret : Option FieldType} {kC nS : Nat} {ws : va_W} {pc : Nat} {lv : List (Nat × Value)} {st : List Value}
theorem jk_iconst (E : En D tys ε cc own Ts ret) {z : Int} {v : Int32} (hdg : decode cc pc = .ok (.iconst z, 1)) (hv : Int32.ofInt z = v) (kk : JK l rm D ε kC nS ws (pc + 1) lv (.int v :: st)) : JK l rm D ε kC nS ws pc lv (st) := by
  obtain ⟨p, e, s, m, args, below, meth, c, Q, A, nL⟩ := ε
  obtain ⟨hx, hb, hml, hown, hts, hr, hlocks, hK, hA, hNW, hZ⟩ := E
  intro H locs ls hP hD hS hl
  exact lv_iconst hx hb hdg hv (kk H locs ls hP hD hS hl)
theorem jk_bipush (E : En D tys ε cc own Ts ret) {z : Int} {v : Int32} (hdg : decode cc pc = .ok (.bipush z, 2)) (hv : (Int8.ofInt z).toInt32 = v) (kk : JK l rm D ε kC nS ws (pc + 2) lv (.int v :: st)) : JK l rm D ε kC nS ws pc lv (st) := by
  obtain ⟨p, e, s, m, args, below, meth, c, Q, A, nL⟩ := ε
  obtain ⟨hx, hb, hml, hown, hts, hr, hlocks, hK, hA, hNW, hZ⟩ := E
  intro H locs ls hP hD hS hl
  exact lv_bipush hx hb hdg hv (kk H locs ls hP hD hS hl)
theorem jk_sipush (E : En D tys ε cc own Ts ret) {z : Int} {v : Int32} (hdg : decode cc pc = .ok (.sipush z, 3)) (hv : (Int16.ofInt z).toInt32 = v) (kk : JK l rm D ε kC nS ws (pc + 3) lv (.int v :: st)) : JK l rm D ε kC nS ws pc lv (st) := by
  obtain ⟨p, e, s, m, args, below, meth, c, Q, A, nL⟩ := ε
  obtain ⟨hx, hb, hml, hown, hts, hr, hlocks, hK, hA, hNW, hZ⟩ := E
  intro H locs ls hP hD hS hl
  exact lv_sipush hx hb hdg hv (kk H locs ls hP hD hS hl)
theorem jk_lconst (E : En D tys ε cc own Ts ret) {z : Fin 2} {v : Int64} (hdg : decode cc pc = .ok (.lconst z, 1)) (hv : Int64.ofNat (z : Nat) = v) (kk : JK l rm D ε kC nS ws (pc + 1) lv (.long v :: st)) : JK l rm D ε kC nS ws pc lv (st) := by
  obtain ⟨p, e, s, m, args, below, meth, c, Q, A, nL⟩ := ε
  obtain ⟨hx, hb, hml, hown, hts, hr, hlocks, hK, hA, hNW, hZ⟩ := E
  intro H locs ls hP hD hS hl
  exact lv_lconst hx hb hdg hv (kk H locs ls hP hD hS hl)
theorem jk_ldc (E : En D tys ε cc own Ts ret) {index : Nat} {v : Int32} (hc : Jvm.Cond.constant own index v ∈ Ts) (hdg : decode cc pc = .ok (.ldc index, 2)) (kk : JK l rm D ε kC nS ws (pc + 2) lv (.int v :: st)) : JK l rm D ε kC nS ws pc lv (st) := by
  obtain ⟨p, e, s, m, args, below, meth, c, Q, A, nL⟩ := ε
  obtain ⟨hx, hb, hml, hown, hts, hr, hlocks, hK, hA, hNW, hZ⟩ := E
  intro H locs ls hP hD hS hl
  exact lv_ldc hx hb hown (hts _ hc) hdg (kk H locs ls hP hD hS hl)
theorem jk_ldc2 (E : En D tys ε cc own Ts ret) {index : Nat} {v : Int64} (hc : Jvm.Cond.constantLong own index v ∈ Ts) (hdg : decode cc pc = .ok (.ldc2_w index, 3)) (kk : JK l rm D ε kC nS ws (pc + 3) lv (.long v :: st)) : JK l rm D ε kC nS ws pc lv (st) := by
  obtain ⟨p, e, s, m, args, below, meth, c, Q, A, nL⟩ := ε
  obtain ⟨hx, hb, hml, hown, hts, hr, hlocks, hK, hA, hNW, hZ⟩ := E
  intro H locs ls hP hD hS hl
  exact lv_ldc2 hx hb hown (hts _ hc) hdg (kk H locs ls hP hD hS hl)
theorem jk_iload_n (E : En D tys ε cc own Ts ret) (j : Nat) {q : Fin 4} {i : Nat} {x : Int32} (hdg : decode cc pc = .ok (.iload_n q, 1)) (hi : (q : Nat) = i) (hj : lv[j]? = some (i, .int x)) (kk : JK l rm D ε kC nS ws (pc + 1) lv (.int x :: st)) : JK l rm D ε kC nS ws pc lv (st) := by
  obtain ⟨p, e, s, m, args, below, meth, c, Q, A, nL⟩ := ε
  obtain ⟨hx, hb, hml, hown, hts, hr, hlocks, hK, hA, hNW, hZ⟩ := E
  intro H locs ls hP hD hS hl
  exact lv_iload_n hx hb hdg hi (lv_at hl j hj) (kk H locs ls hP hD hS hl)
theorem jk_iload (E : En D tys ε cc own Ts ret) (j : Nat) {i : Nat} {x : Int32} (hdg : decode cc pc = .ok (.iload i, 2)) (hj : lv[j]? = some (i, .int x)) (kk : JK l rm D ε kC nS ws (pc + 2) lv (.int x :: st)) : JK l rm D ε kC nS ws pc lv (st) := by
  obtain ⟨p, e, s, m, args, below, meth, c, Q, A, nL⟩ := ε
  obtain ⟨hx, hb, hml, hown, hts, hr, hlocks, hK, hA, hNW, hZ⟩ := E
  intro H locs ls hP hD hS hl
  exact lv_iload hx hb hdg (lv_at hl j hj) (kk H locs ls hP hD hS hl)
theorem jk_lload_n (E : En D tys ε cc own Ts ret) (j : Nat) {q : Fin 4} {i : Nat} {x : Int64} (hdg : decode cc pc = .ok (.lload_n q, 1)) (hi : (q : Nat) = i) (hj : lv[j]? = some (i, .long x)) (kk : JK l rm D ε kC nS ws (pc + 1) lv (.long x :: st)) : JK l rm D ε kC nS ws pc lv (st) := by
  obtain ⟨p, e, s, m, args, below, meth, c, Q, A, nL⟩ := ε
  obtain ⟨hx, hb, hml, hown, hts, hr, hlocks, hK, hA, hNW, hZ⟩ := E
  intro H locs ls hP hD hS hl
  exact lv_lload_n hx hb hdg hi (lv_at hl j hj) (kk H locs ls hP hD hS hl)
theorem jk_lload (E : En D tys ε cc own Ts ret) (j : Nat) {i : Nat} {x : Int64} (hdg : decode cc pc = .ok (.lload i, 2)) (hj : lv[j]? = some (i, .long x)) (kk : JK l rm D ε kC nS ws (pc + 2) lv (.long x :: st)) : JK l rm D ε kC nS ws pc lv (st) := by
  obtain ⟨p, e, s, m, args, below, meth, c, Q, A, nL⟩ := ε
  obtain ⟨hx, hb, hml, hown, hts, hr, hlocks, hK, hA, hNW, hZ⟩ := E
  intro H locs ls hP hD hS hl
  exact lv_lload hx hb hdg (lv_at hl j hj) (kk H locs ls hP hD hS hl)
theorem jk_aload_n (E : En D tys ε cc own Ts ret) (j : Nat) {q : Fin 4} {i : Nat} {x : Nat} (hdg : decode cc pc = .ok (.aload_n q, 1)) (hi : (q : Nat) = i) (hj : lv[j]? = some (i, .ref x)) (kk : JK l rm D ε kC nS ws (pc + 1) lv (.ref x :: st)) : JK l rm D ε kC nS ws pc lv (st) := by
  obtain ⟨p, e, s, m, args, below, meth, c, Q, A, nL⟩ := ε
  obtain ⟨hx, hb, hml, hown, hts, hr, hlocks, hK, hA, hNW, hZ⟩ := E
  intro H locs ls hP hD hS hl
  exact lv_aload_n hx hb hdg hi (lv_at hl j hj) (kk H locs ls hP hD hS hl)
theorem jk_aload (E : En D tys ε cc own Ts ret) (j : Nat) {i : Nat} {x : Nat} (hdg : decode cc pc = .ok (.aload i, 2)) (hj : lv[j]? = some (i, .ref x)) (kk : JK l rm D ε kC nS ws (pc + 2) lv (.ref x :: st)) : JK l rm D ε kC nS ws pc lv (st) := by
  obtain ⟨p, e, s, m, args, below, meth, c, Q, A, nL⟩ := ε
  obtain ⟨hx, hb, hml, hown, hts, hr, hlocks, hK, hA, hNW, hZ⟩ := E
  intro H locs ls hP hD hS hl
  exact lv_aload hx hb hdg (lv_at hl j hj) (kk H locs ls hP hD hS hl)
theorem jk_istore_n (E : En D tys ε cc own Ts ret) {q : Fin 4} {i : Nat} {x : Int32} (lv' : List (Nat × Value)) (hdg : decode cc pc = .ok (.istore_n q, 1)) (hi : (q : Nat) = i) (hn : i < ε.2.2.2.2.2.2.2.2.2.2) (hl2 : (i, Value.int x) :: lv.filter (fun q => !(q.1 == i) && !(q.1 + 1 == i && q.2.category == 2)) = lv') (kk : JK l rm D ε kC nS ws (pc + 1) lv' (st)) : JK l rm D ε kC nS ws pc lv (.int x :: st) := by
  obtain ⟨p, e, s, m, args, below, meth, c, Q, A, nL⟩ := ε
  obtain ⟨hx, hb, hml, hown, hts, hr, hlocks, hK, hA, hNW, hZ⟩ := E
  intro H locs ls hP hD hS hl
  exact lv_istore_n hx hb hdg hi hl hn hl2 (fun ls hl => kk H locs ls hP hD hS hl)
theorem jk_istore (E : En D tys ε cc own Ts ret) {i : Nat} {x : Int32} (lv' : List (Nat × Value)) (hdg : decode cc pc = .ok (.istore i, 2)) (hn : i < ε.2.2.2.2.2.2.2.2.2.2) (hl2 : (i, Value.int x) :: lv.filter (fun q => !(q.1 == i) && !(q.1 + 1 == i && q.2.category == 2)) = lv') (kk : JK l rm D ε kC nS ws (pc + 2) lv' (st)) : JK l rm D ε kC nS ws pc lv (.int x :: st) := by
  obtain ⟨p, e, s, m, args, below, meth, c, Q, A, nL⟩ := ε
  obtain ⟨hx, hb, hml, hown, hts, hr, hlocks, hK, hA, hNW, hZ⟩ := E
  intro H locs ls hP hD hS hl
  exact lv_istore hx hb hdg hl hn hl2 (fun ls hl => kk H locs ls hP hD hS hl)
theorem jk_lstore_n (E : En D tys ε cc own Ts ret) {q : Fin 4} {i : Nat} {x : Int64} (lv' : List (Nat × Value)) (hdg : decode cc pc = .ok (.lstore_n q, 1)) (hi : (q : Nat) = i) (hn : i + 1 < ε.2.2.2.2.2.2.2.2.2.2) (hl2 : (i, Value.long x) :: lv.filter (fun q => !(q.1 == i) && (!(q.1 == i + 1) && !(q.1 + 1 == i && q.2.category == 2))) = lv') (kk : JK l rm D ε kC nS ws (pc + 1) lv' (st)) : JK l rm D ε kC nS ws pc lv (.long x :: st) := by
  obtain ⟨p, e, s, m, args, below, meth, c, Q, A, nL⟩ := ε
  obtain ⟨hx, hb, hml, hown, hts, hr, hlocks, hK, hA, hNW, hZ⟩ := E
  intro H locs ls hP hD hS hl
  exact lv_lstore_n hx hb hdg hi hl hn hl2 (fun ls hl => kk H locs ls hP hD hS hl)
theorem jk_lstore (E : En D tys ε cc own Ts ret) {i : Nat} {x : Int64} (lv' : List (Nat × Value)) (hdg : decode cc pc = .ok (.lstore i, 2)) (hn : i + 1 < ε.2.2.2.2.2.2.2.2.2.2) (hl2 : (i, Value.long x) :: lv.filter (fun q => !(q.1 == i) && (!(q.1 == i + 1) && !(q.1 + 1 == i && q.2.category == 2))) = lv') (kk : JK l rm D ε kC nS ws (pc + 2) lv' (st)) : JK l rm D ε kC nS ws pc lv (.long x :: st) := by
  obtain ⟨p, e, s, m, args, below, meth, c, Q, A, nL⟩ := ε
  obtain ⟨hx, hb, hml, hown, hts, hr, hlocks, hK, hA, hNW, hZ⟩ := E
  intro H locs ls hP hD hS hl
  exact lv_lstore hx hb hdg hl hn hl2 (fun ls hl => kk H locs ls hP hD hS hl)
theorem jk_astore_n (E : En D tys ε cc own Ts ret) {q : Fin 4} {i : Nat} {x : Nat} (lv' : List (Nat × Value)) (hdg : decode cc pc = .ok (.astore_n q, 1)) (hi : (q : Nat) = i) (hn : i < ε.2.2.2.2.2.2.2.2.2.2) (hl2 : (i, Value.ref x) :: lv.filter (fun q => !(q.1 == i) && !(q.1 + 1 == i && q.2.category == 2)) = lv') (kk : JK l rm D ε kC nS ws (pc + 1) lv' (st)) : JK l rm D ε kC nS ws pc lv (.ref x :: st) := by
  obtain ⟨p, e, s, m, args, below, meth, c, Q, A, nL⟩ := ε
  obtain ⟨hx, hb, hml, hown, hts, hr, hlocks, hK, hA, hNW, hZ⟩ := E
  intro H locs ls hP hD hS hl
  exact lv_astore_n hx hb hdg hi hl hn hl2 (fun ls hl => kk H locs ls hP hD hS hl)
theorem jk_astore (E : En D tys ε cc own Ts ret) {i : Nat} {x : Nat} (lv' : List (Nat × Value)) (hdg : decode cc pc = .ok (.astore i, 2)) (hn : i < ε.2.2.2.2.2.2.2.2.2.2) (hl2 : (i, Value.ref x) :: lv.filter (fun q => !(q.1 == i) && !(q.1 + 1 == i && q.2.category == 2)) = lv') (kk : JK l rm D ε kC nS ws (pc + 2) lv' (st)) : JK l rm D ε kC nS ws pc lv (.ref x :: st) := by
  obtain ⟨p, e, s, m, args, below, meth, c, Q, A, nL⟩ := ε
  obtain ⟨hx, hb, hml, hown, hts, hr, hlocks, hK, hA, hNW, hZ⟩ := E
  intro H locs ls hP hD hS hl
  exact lv_astore hx hb hdg hl hn hl2 (fun ls hl => kk H locs ls hP hD hS hl)
theorem jk_iinc (E : En D tys ε cc own Ts ret) (j : Nat) {i : Nat} {z : Int} {x v : Int32} (lv' : List (Nat × Value)) (hdg : decode cc pc = .ok (.iinc i z, 3)) (hj : lv[j]? = some (i, .int x)) (hv : x + Int32.ofInt z = v) (hn : i < ε.2.2.2.2.2.2.2.2.2.2) (hl2 : (i, Value.int v) :: lv.filter (fun q => !(q.1 == i) && !(q.1 + 1 == i && q.2.category == 2)) = lv') (kk : JK l rm D ε kC nS ws (pc + 3) lv' (st)) : JK l rm D ε kC nS ws pc lv (st) := by
  obtain ⟨p, e, s, m, args, below, meth, c, Q, A, nL⟩ := ε
  obtain ⟨hx, hb, hml, hown, hts, hr, hlocks, hK, hA, hNW, hZ⟩ := E
  intro H locs ls hP hD hS hl
  exact lv_iinc hx hb hdg hl hj hv hn hl2 (fun ls hl => kk H locs ls hP hD hS hl)
theorem jk_iadd (E : En D tys ε cc own Ts ret) {x y : Int32} (hdg : decode cc pc = .ok (.iadd, 1)) (kk : JK l rm D ε kC nS ws (pc + 1) lv (.int (x + y) :: st)) : JK l rm D ε kC nS ws pc lv (.int y :: .int x :: st) := by
  obtain ⟨p, e, s, m, args, below, meth, c, Q, A, nL⟩ := ε
  obtain ⟨hx, hb, hml, hown, hts, hr, hlocks, hK, hA, hNW, hZ⟩ := E
  intro H locs ls hP hD hS hl
  exact lv_iadd hx hb hdg (kk H locs ls hP hD hS hl)
theorem jk_isub (E : En D tys ε cc own Ts ret) {x y : Int32} (hdg : decode cc pc = .ok (.isub, 1)) (kk : JK l rm D ε kC nS ws (pc + 1) lv (.int (x - y) :: st)) : JK l rm D ε kC nS ws pc lv (.int y :: .int x :: st) := by
  obtain ⟨p, e, s, m, args, below, meth, c, Q, A, nL⟩ := ε
  obtain ⟨hx, hb, hml, hown, hts, hr, hlocks, hK, hA, hNW, hZ⟩ := E
  intro H locs ls hP hD hS hl
  exact lv_isub hx hb hdg (kk H locs ls hP hD hS hl)
theorem jk_imul (E : En D tys ε cc own Ts ret) {x y : Int32} (hdg : decode cc pc = .ok (.imul, 1)) (kk : JK l rm D ε kC nS ws (pc + 1) lv (.int (x * y) :: st)) : JK l rm D ε kC nS ws pc lv (.int y :: .int x :: st) := by
  obtain ⟨p, e, s, m, args, below, meth, c, Q, A, nL⟩ := ε
  obtain ⟨hx, hb, hml, hown, hts, hr, hlocks, hK, hA, hNW, hZ⟩ := E
  intro H locs ls hP hD hS hl
  exact lv_imul hx hb hdg (kk H locs ls hP hD hS hl)
theorem jk_iand (E : En D tys ε cc own Ts ret) {x y : Int32} (hdg : decode cc pc = .ok (.iand, 1)) (kk : JK l rm D ε kC nS ws (pc + 1) lv (.int (x &&& y) :: st)) : JK l rm D ε kC nS ws pc lv (.int y :: .int x :: st) := by
  obtain ⟨p, e, s, m, args, below, meth, c, Q, A, nL⟩ := ε
  obtain ⟨hx, hb, hml, hown, hts, hr, hlocks, hK, hA, hNW, hZ⟩ := E
  intro H locs ls hP hD hS hl
  exact lv_iand hx hb hdg (kk H locs ls hP hD hS hl)
theorem jk_ior (E : En D tys ε cc own Ts ret) {x y : Int32} (hdg : decode cc pc = .ok (.ior, 1)) (kk : JK l rm D ε kC nS ws (pc + 1) lv (.int (x ||| y) :: st)) : JK l rm D ε kC nS ws pc lv (.int y :: .int x :: st) := by
  obtain ⟨p, e, s, m, args, below, meth, c, Q, A, nL⟩ := ε
  obtain ⟨hx, hb, hml, hown, hts, hr, hlocks, hK, hA, hNW, hZ⟩ := E
  intro H locs ls hP hD hS hl
  exact lv_ior hx hb hdg (kk H locs ls hP hD hS hl)
theorem jk_ixor (E : En D tys ε cc own Ts ret) {x y : Int32} (hdg : decode cc pc = .ok (.ixor, 1)) (kk : JK l rm D ε kC nS ws (pc + 1) lv (.int (x ^^^ y) :: st)) : JK l rm D ε kC nS ws pc lv (.int y :: .int x :: st) := by
  obtain ⟨p, e, s, m, args, below, meth, c, Q, A, nL⟩ := ε
  obtain ⟨hx, hb, hml, hown, hts, hr, hlocks, hK, hA, hNW, hZ⟩ := E
  intro H locs ls hP hD hS hl
  exact lv_ixor hx hb hdg (kk H locs ls hP hD hS hl)
theorem jk_ishl (E : En D tys ε cc own Ts ret) {x y : Int32} (hdg : decode cc pc = .ok (.ishl, 1)) (kk : JK l rm D ε kC nS ws (pc + 1) lv (.int (x <<< (y &&& 31)) :: st)) : JK l rm D ε kC nS ws pc lv (.int y :: .int x :: st) := by
  obtain ⟨p, e, s, m, args, below, meth, c, Q, A, nL⟩ := ε
  obtain ⟨hx, hb, hml, hown, hts, hr, hlocks, hK, hA, hNW, hZ⟩ := E
  intro H locs ls hP hD hS hl
  exact lv_ishl hx hb hdg (kk H locs ls hP hD hS hl)
theorem jk_ishr (E : En D tys ε cc own Ts ret) {x y : Int32} (hdg : decode cc pc = .ok (.ishr, 1)) (kk : JK l rm D ε kC nS ws (pc + 1) lv (.int (x >>> (y &&& 31)) :: st)) : JK l rm D ε kC nS ws pc lv (.int y :: .int x :: st) := by
  obtain ⟨p, e, s, m, args, below, meth, c, Q, A, nL⟩ := ε
  obtain ⟨hx, hb, hml, hown, hts, hr, hlocks, hK, hA, hNW, hZ⟩ := E
  intro H locs ls hP hD hS hl
  exact lv_ishr hx hb hdg (kk H locs ls hP hD hS hl)
theorem jk_ladd (E : En D tys ε cc own Ts ret) {x y : Int64} (hdg : decode cc pc = .ok (.ladd, 1)) (kk : JK l rm D ε kC nS ws (pc + 1) lv (.long (x + y) :: st)) : JK l rm D ε kC nS ws pc lv (.long y :: .long x :: st) := by
  obtain ⟨p, e, s, m, args, below, meth, c, Q, A, nL⟩ := ε
  obtain ⟨hx, hb, hml, hown, hts, hr, hlocks, hK, hA, hNW, hZ⟩ := E
  intro H locs ls hP hD hS hl
  exact lv_ladd hx hb hdg (kk H locs ls hP hD hS hl)
theorem jk_lmul (E : En D tys ε cc own Ts ret) {x y : Int64} (hdg : decode cc pc = .ok (.lmul, 1)) (kk : JK l rm D ε kC nS ws (pc + 1) lv (.long (x * y) :: st)) : JK l rm D ε kC nS ws pc lv (.long y :: .long x :: st) := by
  obtain ⟨p, e, s, m, args, below, meth, c, Q, A, nL⟩ := ε
  obtain ⟨hx, hb, hml, hown, hts, hr, hlocks, hK, hA, hNW, hZ⟩ := E
  intro H locs ls hP hD hS hl
  exact lv_lmul hx hb hdg (kk H locs ls hP hD hS hl)
theorem jk_lor (E : En D tys ε cc own Ts ret) {x y : Int64} (hdg : decode cc pc = .ok (.lor, 1)) (kk : JK l rm D ε kC nS ws (pc + 1) lv (.long (x ||| y) :: st)) : JK l rm D ε kC nS ws pc lv (.long y :: .long x :: st) := by
  obtain ⟨p, e, s, m, args, below, meth, c, Q, A, nL⟩ := ε
  obtain ⟨hx, hb, hml, hown, hts, hr, hlocks, hK, hA, hNW, hZ⟩ := E
  intro H locs ls hP hD hS hl
  exact lv_lor hx hb hdg (kk H locs ls hP hD hS hl)
theorem jk_idiv (E : En D tys ε cc own Ts ret) {x y : Int32} (hne : ¬ y = 0) (hdg : decode cc pc = .ok (.idiv, 1)) (kk : JK l rm D ε kC nS ws (pc + 1) lv (.int (x / y) :: st)) : JK l rm D ε kC nS ws pc lv (.int y :: .int x :: st) := by
  obtain ⟨p, e, s, m, args, below, meth, c, Q, A, nL⟩ := ε
  obtain ⟨hx, hb, hml, hown, hts, hr, hlocks, hK, hA, hNW, hZ⟩ := E
  intro H locs ls hP hD hS hl
  exact lv_idiv hx hb hdg hne (kk H locs ls hP hD hS hl)
theorem jk_irem (E : En D tys ε cc own Ts ret) {x y : Int32} (hne : ¬ y = 0) (hdg : decode cc pc = .ok (.irem, 1)) (kk : JK l rm D ε kC nS ws (pc + 1) lv (.int (x - x / y * y) :: st)) : JK l rm D ε kC nS ws pc lv (.int y :: .int x :: st) := by
  obtain ⟨p, e, s, m, args, below, meth, c, Q, A, nL⟩ := ε
  obtain ⟨hx, hb, hml, hown, hts, hr, hlocks, hK, hA, hNW, hZ⟩ := E
  intro H locs ls hP hD hS hl
  exact lv_irem hx hb hdg hne (kk H locs ls hP hD hS hl)
theorem jk_ldiv (E : En D tys ε cc own Ts ret) {x y : Int64} (hne : ¬ y = 0) (hdg : decode cc pc = .ok (.ldiv, 1)) (kk : JK l rm D ε kC nS ws (pc + 1) lv (.long (x / y) :: st)) : JK l rm D ε kC nS ws pc lv (.long y :: .long x :: st) := by
  obtain ⟨p, e, s, m, args, below, meth, c, Q, A, nL⟩ := ε
  obtain ⟨hx, hb, hml, hown, hts, hr, hlocks, hK, hA, hNW, hZ⟩ := E
  intro H locs ls hP hD hS hl
  exact lv_ldiv hx hb hdg hne (kk H locs ls hP hD hS hl)
theorem jk_lushr (E : En D tys ε cc own Ts ret) {x v : Int64} {y : Int32} (hv : (x.toUInt64 >>> (y.toInt64.toUInt64 &&& Int64.toUInt64 63)).toInt64 = v) (hdg : decode cc pc = .ok (.lushr, 1)) (kk : JK l rm D ε kC nS ws (pc + 1) lv (.long v :: st)) : JK l rm D ε kC nS ws pc lv (.int y :: .long x :: st) := by
  obtain ⟨p, e, s, m, args, below, meth, c, Q, A, nL⟩ := ε
  obtain ⟨hx, hb, hml, hown, hts, hr, hlocks, hK, hA, hNW, hZ⟩ := E
  intro H locs ls hP hD hS hl
  exact lv_lushr hx hb hdg hv (kk H locs ls hP hD hS hl)
theorem jk_lshl (E : En D tys ε cc own Ts ret) {x v : Int64} {y : Int32} (hv : x <<< (y.toInt64 &&& 63) = v) (hdg : decode cc pc = .ok (.lshl, 1)) (kk : JK l rm D ε kC nS ws (pc + 1) lv (.long v :: st)) : JK l rm D ε kC nS ws pc lv (.int y :: .long x :: st) := by
  obtain ⟨p, e, s, m, args, below, meth, c, Q, A, nL⟩ := ε
  obtain ⟨hx, hb, hml, hown, hts, hr, hlocks, hK, hA, hNW, hZ⟩ := E
  intro H locs ls hP hD hS hl
  exact lv_lshl hx hb hdg hv (kk H locs ls hP hD hS hl)
theorem jk_i2l (E : En D tys ε cc own Ts ret) {x : Int32} (hdg : decode cc pc = .ok (.i2l, 1)) (kk : JK l rm D ε kC nS ws (pc + 1) lv (.long x.toInt64 :: st)) : JK l rm D ε kC nS ws pc lv (.int x :: st) := by
  obtain ⟨p, e, s, m, args, below, meth, c, Q, A, nL⟩ := ε
  obtain ⟨hx, hb, hml, hown, hts, hr, hlocks, hK, hA, hNW, hZ⟩ := E
  intro H locs ls hP hD hS hl
  exact lv_i2l hx hb hdg rfl (kk H locs ls hP hD hS hl)
theorem jk_l2i (E : En D tys ε cc own Ts ret) {x : Int64} (hdg : decode cc pc = .ok (.l2i, 1)) (kk : JK l rm D ε kC nS ws (pc + 1) lv (.int x.toInt32 :: st)) : JK l rm D ε kC nS ws pc lv (.long x :: st) := by
  obtain ⟨p, e, s, m, args, below, meth, c, Q, A, nL⟩ := ε
  obtain ⟨hx, hb, hml, hown, hts, hr, hlocks, hK, hA, hNW, hZ⟩ := E
  intro H locs ls hP hD hS hl
  exact lv_l2i hx hb hdg rfl (kk H locs ls hP hD hS hl)
theorem jk_i2c (E : En D tys ε cc own Ts ret) {x : Int32} (hdg : decode cc pc = .ok (.i2c, 1)) (kk : JK l rm D ε kC nS ws (pc + 1) lv (.int (x.toUInt32 % 65536).toInt32 :: st)) : JK l rm D ε kC nS ws pc lv (.int x :: st) := by
  obtain ⟨p, e, s, m, args, below, meth, c, Q, A, nL⟩ := ε
  obtain ⟨hx, hb, hml, hown, hts, hr, hlocks, hK, hA, hNW, hZ⟩ := E
  intro H locs ls hP hD hS hl
  exact lv_i2c hx hb hdg rfl (kk H locs ls hP hD hS hl)
theorem jk_lcmp (E : En D tys ε cc own Ts ret) {x y : Int64} (hdg : decode cc pc = .ok (.lcmp, 1)) (kk : JK l rm D ε kC nS ws (pc + 1) lv (.int (lg_cmp x y) :: st)) : JK l rm D ε kC nS ws pc lv (.long y :: .long x :: st) := by
  obtain ⟨p, e, s, m, args, below, meth, c, Q, A, nL⟩ := ε
  obtain ⟨hx, hb, hml, hown, hts, hr, hlocks, hK, hA, hNW, hZ⟩ := E
  intro H locs ls hP hD hS hl
  exact W.lcmp hx hb hdg (kk H locs ls hP hD hS hl)
theorem jk_dup (E : En D tys ε cc own Ts ret) {va : Value} (hva : va.category = 1) (hdg : decode cc pc = .ok (.dup, 1)) (kk : JK l rm D ε kC nS ws (pc + 1) lv (va :: va :: st)) : JK l rm D ε kC nS ws pc lv (va :: st) := by
  obtain ⟨p, e, s, m, args, below, meth, c, Q, A, nL⟩ := ε
  obtain ⟨hx, hb, hml, hown, hts, hr, hlocks, hK, hA, hNW, hZ⟩ := E
  intro H locs ls hP hD hS hl
  exact lv_dup hx hb hdg hva (kk H locs ls hP hD hS hl)
theorem jk_dup2 (E : En D tys ε cc own Ts ret) {va vb : Value} (hva : va.category = 1) (hvb : vb.category = 1) (hdg : decode cc pc = .ok (.dup2, 1)) (kk : JK l rm D ε kC nS ws (pc + 1) lv (va :: vb :: va :: vb :: st)) : JK l rm D ε kC nS ws pc lv (va :: vb :: st) := by
  obtain ⟨p, e, s, m, args, below, meth, c, Q, A, nL⟩ := ε
  obtain ⟨hx, hb, hml, hown, hts, hr, hlocks, hK, hA, hNW, hZ⟩ := E
  intro H locs ls hP hD hS hl
  exact lv_dup2_11 hx hb hdg hva hvb (kk H locs ls hP hD hS hl)
theorem jk_pop (E : En D tys ε cc own Ts ret) {va : Value} (hva : va.category = 1) (hdg : decode cc pc = .ok (.pop, 1)) (kk : JK l rm D ε kC nS ws (pc + 1) lv (st)) : JK l rm D ε kC nS ws pc lv (va :: st) := by
  obtain ⟨p, e, s, m, args, below, meth, c, Q, A, nL⟩ := ε
  obtain ⟨hx, hb, hml, hown, hts, hr, hlocks, hK, hA, hNW, hZ⟩ := E
  intro H locs ls hP hD hS hl
  exact lv_pop hx hb hdg hva (kk H locs ls hP hD hS hl)
theorem jk_if_eq (E : En D tys ε cc own Ts ret) {x : Int32} {off : Int} (tgt : Nat) (hdg : decode cc pc = .ok (.ifCond .eq off, 3)) (ht : (pc : Int) + off = (tgt : Int)) (kt : x = 0 → JK l rm D ε kC nS ws (tgt) lv (st)) (kf : ¬ x = 0 → JK l rm D ε kC nS ws (pc + 3) lv (st)) : JK l rm D ε kC nS ws pc lv (.int x :: st) := by
  obtain ⟨p, e, s, m, args, below, meth, c, Q, A, nL⟩ := ε
  obtain ⟨hx, hb, hml, hown, hts, hr, hlocks, hK, hA, hNW, hZ⟩ := E
  intro H locs ls hP hD hS hl
  exact lv_if_eq hx hb hdg ht (fun hc => kt hc H locs ls hP hD hS hl) (fun hc => kf hc H locs ls hP hD hS hl)
theorem jk_icmp_eq (E : En D tys ε cc own Ts ret) {x y : Int32} {off : Int} (tgt : Nat) (hdg : decode cc pc = .ok (.if_icmp .eq off, 3)) (ht : (pc : Int) + off = (tgt : Int)) (kt : x = y → JK l rm D ε kC nS ws (tgt) lv (st)) (kf : ¬ x = y → JK l rm D ε kC nS ws (pc + 3) lv (st)) : JK l rm D ε kC nS ws pc lv (.int y :: .int x :: st) := by
  obtain ⟨p, e, s, m, args, below, meth, c, Q, A, nL⟩ := ε
  obtain ⟨hx, hb, hml, hown, hts, hr, hlocks, hK, hA, hNW, hZ⟩ := E
  intro H locs ls hP hD hS hl
  exact lv_icmp_eq hx hb hdg ht (fun hc => kt hc H locs ls hP hD hS hl) (fun hc => kf hc H locs ls hP hD hS hl)
theorem jk_if_ne (E : En D tys ε cc own Ts ret) {x : Int32} {off : Int} (tgt : Nat) (hdg : decode cc pc = .ok (.ifCond .ne off, 3)) (ht : (pc : Int) + off = (tgt : Int)) (kt : ¬ x = 0 → JK l rm D ε kC nS ws (tgt) lv (st)) (kf : x = 0 → JK l rm D ε kC nS ws (pc + 3) lv (st)) : JK l rm D ε kC nS ws pc lv (.int x :: st) := by
  obtain ⟨p, e, s, m, args, below, meth, c, Q, A, nL⟩ := ε
  obtain ⟨hx, hb, hml, hown, hts, hr, hlocks, hK, hA, hNW, hZ⟩ := E
  intro H locs ls hP hD hS hl
  exact lv_if_ne hx hb hdg ht (fun hc => kt hc H locs ls hP hD hS hl) (fun hc => kf hc H locs ls hP hD hS hl)
theorem jk_icmp_ne (E : En D tys ε cc own Ts ret) {x y : Int32} {off : Int} (tgt : Nat) (hdg : decode cc pc = .ok (.if_icmp .ne off, 3)) (ht : (pc : Int) + off = (tgt : Int)) (kt : ¬ x = y → JK l rm D ε kC nS ws (tgt) lv (st)) (kf : x = y → JK l rm D ε kC nS ws (pc + 3) lv (st)) : JK l rm D ε kC nS ws pc lv (.int y :: .int x :: st) := by
  obtain ⟨p, e, s, m, args, below, meth, c, Q, A, nL⟩ := ε
  obtain ⟨hx, hb, hml, hown, hts, hr, hlocks, hK, hA, hNW, hZ⟩ := E
  intro H locs ls hP hD hS hl
  exact lv_icmp_ne hx hb hdg ht (fun hc => kt hc H locs ls hP hD hS hl) (fun hc => kf hc H locs ls hP hD hS hl)
theorem jk_if_lt (E : En D tys ε cc own Ts ret) {x : Int32} {off : Int} (tgt : Nat) (hdg : decode cc pc = .ok (.ifCond .lt off, 3)) (ht : (pc : Int) + off = (tgt : Int)) (kt : x < 0 → JK l rm D ε kC nS ws (tgt) lv (st)) (kf : ¬ x < 0 → JK l rm D ε kC nS ws (pc + 3) lv (st)) : JK l rm D ε kC nS ws pc lv (.int x :: st) := by
  obtain ⟨p, e, s, m, args, below, meth, c, Q, A, nL⟩ := ε
  obtain ⟨hx, hb, hml, hown, hts, hr, hlocks, hK, hA, hNW, hZ⟩ := E
  intro H locs ls hP hD hS hl
  exact lv_if_lt hx hb hdg ht (fun hc => kt hc H locs ls hP hD hS hl) (fun hc => kf hc H locs ls hP hD hS hl)
theorem jk_icmp_lt (E : En D tys ε cc own Ts ret) {x y : Int32} {off : Int} (tgt : Nat) (hdg : decode cc pc = .ok (.if_icmp .lt off, 3)) (ht : (pc : Int) + off = (tgt : Int)) (kt : x < y → JK l rm D ε kC nS ws (tgt) lv (st)) (kf : ¬ x < y → JK l rm D ε kC nS ws (pc + 3) lv (st)) : JK l rm D ε kC nS ws pc lv (.int y :: .int x :: st) := by
  obtain ⟨p, e, s, m, args, below, meth, c, Q, A, nL⟩ := ε
  obtain ⟨hx, hb, hml, hown, hts, hr, hlocks, hK, hA, hNW, hZ⟩ := E
  intro H locs ls hP hD hS hl
  exact lv_icmp_lt hx hb hdg ht (fun hc => kt hc H locs ls hP hD hS hl) (fun hc => kf hc H locs ls hP hD hS hl)
theorem jk_if_ge (E : En D tys ε cc own Ts ret) {x : Int32} {off : Int} (tgt : Nat) (hdg : decode cc pc = .ok (.ifCond .ge off, 3)) (ht : (pc : Int) + off = (tgt : Int)) (kt : 0 ≤ x → JK l rm D ε kC nS ws (tgt) lv (st)) (kf : ¬ 0 ≤ x → JK l rm D ε kC nS ws (pc + 3) lv (st)) : JK l rm D ε kC nS ws pc lv (.int x :: st) := by
  obtain ⟨p, e, s, m, args, below, meth, c, Q, A, nL⟩ := ε
  obtain ⟨hx, hb, hml, hown, hts, hr, hlocks, hK, hA, hNW, hZ⟩ := E
  intro H locs ls hP hD hS hl
  exact lv_if_ge hx hb hdg ht (fun hc => kt hc H locs ls hP hD hS hl) (fun hc => kf hc H locs ls hP hD hS hl)
theorem jk_icmp_ge (E : En D tys ε cc own Ts ret) {x y : Int32} {off : Int} (tgt : Nat) (hdg : decode cc pc = .ok (.if_icmp .ge off, 3)) (ht : (pc : Int) + off = (tgt : Int)) (kt : y ≤ x → JK l rm D ε kC nS ws (tgt) lv (st)) (kf : ¬ y ≤ x → JK l rm D ε kC nS ws (pc + 3) lv (st)) : JK l rm D ε kC nS ws pc lv (.int y :: .int x :: st) := by
  obtain ⟨p, e, s, m, args, below, meth, c, Q, A, nL⟩ := ε
  obtain ⟨hx, hb, hml, hown, hts, hr, hlocks, hK, hA, hNW, hZ⟩ := E
  intro H locs ls hP hD hS hl
  exact lv_icmp_ge hx hb hdg ht (fun hc => kt hc H locs ls hP hD hS hl) (fun hc => kf hc H locs ls hP hD hS hl)
theorem jk_if_gt (E : En D tys ε cc own Ts ret) {x : Int32} {off : Int} (tgt : Nat) (hdg : decode cc pc = .ok (.ifCond .gt off, 3)) (ht : (pc : Int) + off = (tgt : Int)) (kt : 0 < x → JK l rm D ε kC nS ws (tgt) lv (st)) (kf : ¬ 0 < x → JK l rm D ε kC nS ws (pc + 3) lv (st)) : JK l rm D ε kC nS ws pc lv (.int x :: st) := by
  obtain ⟨p, e, s, m, args, below, meth, c, Q, A, nL⟩ := ε
  obtain ⟨hx, hb, hml, hown, hts, hr, hlocks, hK, hA, hNW, hZ⟩ := E
  intro H locs ls hP hD hS hl
  exact lv_if_gt hx hb hdg ht (fun hc => kt hc H locs ls hP hD hS hl) (fun hc => kf hc H locs ls hP hD hS hl)
theorem jk_icmp_gt (E : En D tys ε cc own Ts ret) {x y : Int32} {off : Int} (tgt : Nat) (hdg : decode cc pc = .ok (.if_icmp .gt off, 3)) (ht : (pc : Int) + off = (tgt : Int)) (kt : y < x → JK l rm D ε kC nS ws (tgt) lv (st)) (kf : ¬ y < x → JK l rm D ε kC nS ws (pc + 3) lv (st)) : JK l rm D ε kC nS ws pc lv (.int y :: .int x :: st) := by
  obtain ⟨p, e, s, m, args, below, meth, c, Q, A, nL⟩ := ε
  obtain ⟨hx, hb, hml, hown, hts, hr, hlocks, hK, hA, hNW, hZ⟩ := E
  intro H locs ls hP hD hS hl
  exact lv_icmp_gt hx hb hdg ht (fun hc => kt hc H locs ls hP hD hS hl) (fun hc => kf hc H locs ls hP hD hS hl)
theorem jk_if_le (E : En D tys ε cc own Ts ret) {x : Int32} {off : Int} (tgt : Nat) (hdg : decode cc pc = .ok (.ifCond .le off, 3)) (ht : (pc : Int) + off = (tgt : Int)) (kt : x ≤ 0 → JK l rm D ε kC nS ws (tgt) lv (st)) (kf : ¬ x ≤ 0 → JK l rm D ε kC nS ws (pc + 3) lv (st)) : JK l rm D ε kC nS ws pc lv (.int x :: st) := by
  obtain ⟨p, e, s, m, args, below, meth, c, Q, A, nL⟩ := ε
  obtain ⟨hx, hb, hml, hown, hts, hr, hlocks, hK, hA, hNW, hZ⟩ := E
  intro H locs ls hP hD hS hl
  exact lv_if_le hx hb hdg ht (fun hc => kt hc H locs ls hP hD hS hl) (fun hc => kf hc H locs ls hP hD hS hl)
theorem jk_icmp_le (E : En D tys ε cc own Ts ret) {x y : Int32} {off : Int} (tgt : Nat) (hdg : decode cc pc = .ok (.if_icmp .le off, 3)) (ht : (pc : Int) + off = (tgt : Int)) (kt : x ≤ y → JK l rm D ε kC nS ws (tgt) lv (st)) (kf : ¬ x ≤ y → JK l rm D ε kC nS ws (pc + 3) lv (st)) : JK l rm D ε kC nS ws pc lv (.int y :: .int x :: st) := by
  obtain ⟨p, e, s, m, args, below, meth, c, Q, A, nL⟩ := ε
  obtain ⟨hx, hb, hml, hown, hts, hr, hlocks, hK, hA, hNW, hZ⟩ := E
  intro H locs ls hP hD hS hl
  exact lv_icmp_le hx hb hdg ht (fun hc => kt hc H locs ls hP hD hS hl) (fun hc => kf hc H locs ls hP hD hS hl)
theorem jk_goto (E : En D tys ε cc own Ts ret) {off : Int} (tgt : Nat) (hdg : decode cc pc = .ok (.goto off, 3)) (ht : (pc : Int) + off = (tgt : Int)) (kk : JK l rm D ε kC nS ws (tgt) lv (st)) : JK l rm D ε kC nS ws pc lv (st) := by
  obtain ⟨p, e, s, m, args, below, meth, c, Q, A, nL⟩ := ε
  obtain ⟨hx, hb, hml, hown, hts, hr, hlocks, hK, hA, hNW, hZ⟩ := E
  intro H locs ls hP hD hS hl
  exact lv_goto hx hb hdg ht (kk H locs ls hP hD hS hl)
theorem jk_iald (E : En D tys ε cc own Ts ret) (q0 t0 : Nat) {a : Nat} {cA : ClassId} {n : Nat} {f : Nat → Int32} {i : Int32} (ha : ws[q0]? = some (a, .inl (cA, n, .inl f))) (ht : tys[t0]? = some (cA, .int)) (hin : vp_in i n) (hdg : decode cc pc = .ok (.iaload, 1)) (kk : JK l rm D ε kC nS ws (pc + 1) lv (.int (f i.toNatClampNeg) :: st)) : JK l rm D ε kC nS ws pc lv (.int i :: .ref a :: st) := by
  obtain ⟨p, e, s, m, args, below, meth, c, Q, A, nL⟩ := ε
  obtain ⟨hx, hb, hml, hown, hts, hr, hlocks, hK, hA, hNW, hZ⟩ := E
  intro H locs ls hP hD hS hl
  exact va_iald hx hb hK hP q0 t0 ha ht hin hdg (kk H locs ls hP hD hS hl)
theorem jk_cald (E : En D tys ε cc own Ts ret) (q0 t0 : Nat) {a : Nat} {cA : ClassId} {n : Nat} {f : Nat → Int32} {i : Int32} (ha : ws[q0]? = some (a, .inl (cA, n, .inl f))) (ht : tys[t0]? = some (cA, .char)) (hin : vp_in i n) (hdg : decode cc pc = .ok (.caload, 1)) (kk : JK l rm D ε kC nS ws (pc + 1) lv (.int (f i.toNatClampNeg) :: st)) : JK l rm D ε kC nS ws pc lv (.int i :: .ref a :: st) := by
  obtain ⟨p, e, s, m, args, below, meth, c, Q, A, nL⟩ := ε
  obtain ⟨hx, hb, hml, hown, hts, hr, hlocks, hK, hA, hNW, hZ⟩ := E
  intro H locs ls hP hD hS hl
  exact va_cald hx hb hK hP q0 t0 ha ht hin hdg (kk H locs ls hP hD hS hl)
theorem jk_lald (E : En D tys ε cc own Ts ret) (q0 t0 : Nat) {a : Nat} {cA : ClassId} {n : Nat} {f : Nat → Int64} {i : Int32} (ha : ws[q0]? = some (a, .inl (cA, n, .inr (.inl f)))) (ht : tys[t0]? = some (cA, .long)) (hin : vp_in i n) (hdg : decode cc pc = .ok (.laload, 1)) (kk : JK l rm D ε kC nS ws (pc + 1) lv (.long (f i.toNatClampNeg) :: st)) : JK l rm D ε kC nS ws pc lv (.int i :: .ref a :: st) := by
  obtain ⟨p, e, s, m, args, below, meth, c, Q, A, nL⟩ := ε
  obtain ⟨hx, hb, hml, hown, hts, hr, hlocks, hK, hA, hNW, hZ⟩ := E
  intro H locs ls hP hD hS hl
  exact va_lald hx hb hK hP q0 t0 ha ht hin hdg (kk H locs ls hP hD hS hl)
theorem jk_iast (E : En D tys ε cc own Ts ret) (q0 t0 : Nat) {a : Nat} {cA : ClassId} {n : Nat} {f : Nat → Int32} {i : Int32} {x : Int32} {ws' : va_W} (ha : ws[q0]? = some (a, .inl (cA, n, .inl (f)))) (ht : tys[t0]? = some (cA, .int)) (hin : vp_in i n) (hw : ws.set q0 (a, .inl (cA, n, .inl (upd f i.toNatClampNeg x))) = ws') (hdg : decode cc pc = .ok (.iastore, 1)) (kk : JK l rm D ε kC nS ws' (pc + 1) lv (st)) : JK l rm D ε kC nS ws pc lv (.int x :: .int i :: .ref a :: st) := by
  obtain ⟨p, e, s, m, args, below, meth, c, Q, A, nL⟩ := ε
  obtain ⟨hx, hb, hml, hown, hts, hr, hlocks, hK, hA, hNW, hZ⟩ := E
  intro H locs ls hP hD hS hl
  exact va_iast hx hb hK hP hD hS q0 t0 ha ht hin hdg (fun H locs hP hD hS => kk H locs ls (hw ▸ hP) (hw ▸ hD) hS hl)
theorem jk_cast (E : En D tys ε cc own Ts ret) (q0 t0 : Nat) {a : Nat} {cA : ClassId} {n : Nat} {f : Nat → Int32} {i : Int32} {x : Int32} {ws' : va_W} (ha : ws[q0]? = some (a, .inl (cA, n, .inl (f)))) (ht : tys[t0]? = some (cA, .char)) (hin : vp_in i n) (hw : ws.set q0 (a, .inl (cA, n, .inl (upd f i.toNatClampNeg (vp_nar .char x)))) = ws') (hdg : decode cc pc = .ok (.castore, 1)) (kk : JK l rm D ε kC nS ws' (pc + 1) lv (st)) : JK l rm D ε kC nS ws pc lv (.int x :: .int i :: .ref a :: st) := by
  obtain ⟨p, e, s, m, args, below, meth, c, Q, A, nL⟩ := ε
  obtain ⟨hx, hb, hml, hown, hts, hr, hlocks, hK, hA, hNW, hZ⟩ := E
  intro H locs ls hP hD hS hl
  exact va_cast hx hb hK hP hD hS q0 t0 ha ht hin hdg (fun H locs hP hD hS => kk H locs ls (hw ▸ hP) (hw ▸ hD) hS hl)
theorem jk_last (E : En D tys ε cc own Ts ret) (q0 t0 : Nat) {a : Nat} {cA : ClassId} {n : Nat} {f : Nat → Int64} {i : Int32} {x : Int64} {ws' : va_W} (ha : ws[q0]? = some (a, .inl (cA, n, .inr (.inl (f))))) (ht : tys[t0]? = some (cA, .long)) (hin : vp_in i n) (hw : ws.set q0 (a, .inl (cA, n, .inr (.inl (vp_updL f i.toNatClampNeg x)))) = ws') (hdg : decode cc pc = .ok (.lastore, 1)) (kk : JK l rm D ε kC nS ws' (pc + 1) lv (st)) : JK l rm D ε kC nS ws pc lv (.long x :: .int i :: .ref a :: st) := by
  obtain ⟨p, e, s, m, args, below, meth, c, Q, A, nL⟩ := ε
  obtain ⟨hx, hb, hml, hown, hts, hr, hlocks, hK, hA, hNW, hZ⟩ := E
  intro H locs ls hP hD hS hl
  exact va_last hx hb hK hP hD hS q0 t0 ha ht hin hdg (fun H locs hP hD hS => kk H locs ls (hw ▸ hP) (hw ▸ hD) hS hl)
theorem jk_aald (E : En D tys ε cc own Ts ret) (q0 t0 : Nat) {a : Nat} {cA : ClassId} {C : String} {n : Nat} {f : Nat → Option Nat} {i : Int32} {v : Value} (ha : ws[q0]? = some (a, .inl (cA, n, .inr (.inr (.inr (.inr f)))))) (ht : tys[t0]? = some (cA, .object C)) (hin : vp_in i n) (hv : va_rf (f i.toNatClampNeg) = v) (hdg : decode cc pc = .ok (.aaload, 1)) (kk : JK l rm D ε kC nS ws (pc + 1) lv (v :: st)) : JK l rm D ε kC nS ws pc lv (.int i :: .ref a :: st) := by
  obtain ⟨p, e, s, m, args, below, meth, c, Q, A, nL⟩ := ε
  obtain ⟨hx, hb, hml, hown, hts, hr, hlocks, hK, hA, hNW, hZ⟩ := E
  intro H locs ls hP hD hS hl
  exact va_aldq hx hb hK hP q0 t0 ha ht hin hdg (by rw [hv]; exact kk H locs ls hP hD hS hl)
theorem jk_get (E : En D tys ε cc own Ts ret) {C : String} {T : u_T} {N ci index : Nat} (hin : ∀ w ∈ u_ws C T N, w ∈ Ts) (q0 : Nat) {a : Nat} {fs : List Value} (he : ws[q0]? = some (a, .inr (ci, fs))) (hc : vwCl[ci]? = some (C, T, N)) (kf : Nat) (hk : kf < N) (hlink : Cond.fieldLink own index (T kf).1 (T kf).2.1 (T kf).2.2.1 ∈ Ts) {v : Value} (hv : fs[kf]? = some v) (hdg : decode cc pc = .ok (.getfield index, 3)) (kk : JK l rm D ε kC nS ws (pc + 3) lv (v :: st)) : JK l rm D ε kC nS ws pc lv (.ref a :: st) := by
  obtain ⟨p, e, s, m, args, below, meth, c, Q, A, nL⟩ := ε
  obtain ⟨hx, hb, hml, hown, hts, hr, hlocks, hK, hA, hNW, hZ⟩ := E
  intro H locs ls hP hD hS hl
  exact va_get hx hb hts hin hown hK hP q0 he hc kf hk (hts _ hlink) (fun _ h => h) hv hdg (kk H locs ls hP hD hS hl)
theorem jk_put (E : En D tys ε cc own Ts ret) {C : String} {T : u_T} {N ci index : Nat} (hin : ∀ w ∈ u_ws C T N, w ∈ Ts) (ty0 : Nat → FieldType) (hty : ∀ k, k < N → parseFieldDescriptor (T k).2.2.1 = some (ty0 k)) (hnm : ∀ a, a < N → ∀ b, b < N → a ≠ b → (T a).2.1 ≠ (T b).2.1) (q0 : Nat) {a : Nat} {fs : List Value} (he : ws[q0]? = some (a, .inr (ci, fs))) (hc : vwCl[ci]? = some (C, T, N)) (kf : Nat) (hk : kf < N) (hlink : Cond.fieldLink own index (T kf).1 (T kf).2.1 (T kf).2.2.1 ∈ Ts) (hfin : (T kf).2.2.2 = false) {v : Value} (hn : narrow (ty0 kf) v = v) (hfit : fits (ty0 kf) v = true) (hl3 : kf < fs.length) {ws' : va_W} (hw : ws.set q0 (a, .inr (ci, fs.set kf v)) = ws') (hdg : decode cc pc = .ok (.putfield index, 3)) (kk : JK l rm D ε kC nS ws' (pc + 3) lv (st)) : JK l rm D ε kC nS ws pc lv (v :: .ref a :: st) := by
  obtain ⟨p, e, s, m, args, below, meth, c, Q, A, nL⟩ := ε
  obtain ⟨hx, hb, hml, hown, hts, hr, hlocks, hK, hA, hNW, hZ⟩ := E
  intro H locs ls hP hD hS hl
  exact va_put hx hb hts hin ty0 hty hnm hown hK hP hD hS q0 he hc kf hk (hts _ hlink) (fun _ h => h) hfin (hty kf hk) hn hfit hl3 hdg (fun H locs hP hD hS => kk H locs ls (hw ▸ hP) (hw ▸ hD) hS hl)
theorem jk_topi {x : Int32} (kk : ∀ y : Int32, y = x → JK l rm D ε kC nS ws (pc) lv (.int y :: st)) : JK l rm D ε kC nS ws (pc) lv (.int x :: st) := kk x rfl
theorem jk_topl {x : Int64} (kk : ∀ y : Int64, y = x → JK l rm D ε kC nS ws (pc) lv (.long y :: st)) : JK l rm D ε kC nS ws (pc) lv (.long x :: st) := kk x rfl
theorem jk_topE {x y : Int32} (h : x = y) (kk : JK l rm D ε kC nS ws (pc) lv (.int y :: st)) : JK l rm D ε kC nS ws (pc) lv (.int x :: st) := by rw [h]; exact kk
theorem jk_topEl {x y : Int64} (h : x = y) (kk : JK l rm D ε kC nS ws (pc) lv (.long y :: st)) : JK l rm D ε kC nS ws (pc) lv (.long x :: st) := by rw [h]; exact kk
theorem jk_ws {ws' : va_W} (h : ws = ws') (kk : JK l rm D ε kC nS ws' (pc) lv (st)) : JK l rm D ε kC nS ws (pc) lv (st) := by rw [h]; exact kk
theorem jk_lv (ks : List Nat) {lv' : List (Nat × Value)} (h : lv_pick lv ks = lv') (kk : JK l rm D ε kC nS ws (pc) lv' (st)) : JK l rm D ε kC nS ws (pc) lv (st) := by
  obtain ⟨p, e, s, m, args, below, meth, c, Q, A, nL⟩ := ε
  intro H locs ls hP hD hS hl
  exact kk H locs ls hP hD hS (lv_sub hl ks h)
theorem jk_behind2 {p : Program} {e : Env} {s : State} {m : MethodId} {args : Array Value} {below : List Frame} {meth : Method} {c : Code} {Q : State → Prop} {A : Nat → Prop} {H : Heap} {locs : List Loc} {ls : Array Slot} {st0 rest : List Value} {S : Type} {psi : S → Prop} {val : S → Option Value} {wo : S → va_W} {wc ws' : va_W}
    (hr : va_Run p l e rm s m args below meth c H locs kC nS 0 0 (F0 m pc ls st0) rest (fun st oc t => (∃ u : S, oc = .returned (val u) ∧ psi u ∧ va_P D vwCl (wo u) t.heap) ∧ va_F (va_A wc H.size) st t) (va_A wc H.size))
    (hP : va_P D vwCl ws H) (hD : va_D A ws) (hS : va_S A s.heap H locs) (isC isR : List Nat) (hC : isC.map (fun i => ws[i]?) = wc.map some) (hN : ∀ u : S, isC.map (fun i => ws'[i]?) = (wo u).map some) (hR : isR.map (fun i => ws'[i]?) = isR.map (fun i => ws[i]?)) (hadr : ws'.map (fun q => q.1) = ws.map (fun q => q.1)) {n : Nat} (hlen : ws'.length = n) (hcov : (List.range n).all (fun i => isC.contains i || isR.contains i) = true) (hdis : isR.all (fun i => !isC.contains i) = true) (hF : ∀ q, va_A wc H.size q → A q)
    (kk : ∀ (u : S), psi u → ∀ (H1 : Heap) (locs1 : List Loc), va_P D vwCl ws' H1 → va_D A ws' → va_S A s.heap H1 locs1 → W p l e rm s m args below meth c H1 locs1 kC nS Q (F0 m (pc + 3) ls ((val u).toList ++ rest))) :
    W p l e rm s m args below meth c H locs kC nS Q (F0 m pc ls st0) := by
  intro T hT X
  obtain ⟨v, st₀, t, T', L, h0, X', hL, e1, e2, ⟨⟨u, hv, hp, hb⟩, hz, hk⟩, stp⟩ := hr T hT X
  have hv2 : v = val u := by cases hv; rfl
  subst hv2
  rw [h0] at hz hk
  rw [← e1] at hz hk hb
  obtain ⟨g1, g2⟩ := va_place2 hP hD isC isR hC (hN u) hR hadr hlen hcov hdis hk hb
  obtain ⟨t2, a1, b1⟩ := kk u hp T'.heap (locs ++ L) g1 g2
    ⟨Nat.le_trans hS.1 hz, fun q h1 h2 => by rw [hk q (Nat.lt_of_lt_of_le h1 hS.1) (fun z => h2 (hF q z))]; exact hS.2.1 q h1 h2, fun q hq => by
      rcases List.mem_append.mp hq with h | h
      · exact hS.2.2 q h
      · exact hF _ (hL q h)⟩ T' rfl X'
  exact ⟨t2, stp t2 a1, b1⟩
theorem jk_S2 (E : En D tys ε cc own Ts ret) {S : Type} {psi : S → Prop} {val : S → Option Value} {wo : S → va_W} {wc : va_W} {y : MethodName} {bytes : ByteArray} {maxL : Nat} {rt : Option FieldType} {w w' : List Cond} {rmc : Room} {As rest : List Value} {n index : Nat} (hM : Ct l y w rmc D tys As wc psi val wo) (hG : GoodIn Ts (va_wsS own index y w)) (hd : y.cls ≠ "java/lang/invoke/MethodHandle" ∧ y.cls ≠ "java/lang/invoke/VarHandle" ∧ (parseMethodDescriptor y.desc).map (fun d => d.parameters.length) = some n) (hw : w = Cond.code y bytes maxL rt :: w') (hrm : rmc.cells = 0 ∧ rmc.slots = 0) (hR : rmc.frames + 1 ≤ rm.frames ∧ 8 + (maxL + 11) + rmc.locals ≤ rm.locals) (hn : As.length = n) (isC : List Nat) (hC : isC.map (fun i => ws[i]?) = wc.map some) (isR : List Nat) (ws' : va_W) (hN : ∀ u : S, isC.map (fun i => ws'[i]?) = (wo u).map some) (wr : va_W) (adr : List Nat) (hR1 : isR.map (fun i => ws'[i]?) = wr.map some) (hR2 : isR.map (fun i => ws[i]?) = wr.map some) (ha1 : ws'.map (fun q => q.1) = adr) (ha2 : ws.map (fun q => q.1) = adr) {n9 : Nat} (hlen : ws'.length = n9) (hcov : (List.range n9).all (fun i => isC.contains i || isR.contains i) = true) (hdis : isR.all (fun i => !isC.contains i) = true) (hst : st = As.reverse ++ rest) (hcat : (rest.map fun v => v.category).sum ≤ 8) (hdg : decode cc pc = .ok (.invokestatic index, 3)) (kk : ∀ u : S, psi u → JK l rm D ε kC nS ws' (pc + 3) lv ((val u).toList ++ rest)) (hnd : va_nd isC = true) (hkn : kC + 0 ≤ rm.cells ∧ nS + 0 ≤ rm.slots) : JK l rm D ε kC nS ws pc lv st := by
  obtain ⟨p, e, s, m, args, below, meth, c, Q, A, nL⟩ := ε
  obtain ⟨hx, hb, hml, hown, hts, hr, hlocks, hK, hA, hNW, hZ⟩ := E
  intro H locs ls hP hD hS hl
  subst hst
  have hPc : va_P D vwCl wc H := hP.sub isC (by
    have h9 := congrArg (List.filterMap id) hC
    simpa [List.filterMap_map, Function.comp_def] using h9)
  have hFc := va_free (wc := wc) hD hS hA isC hC
  have hDc := va_D_cut hD isC hnd hC
  exact jk_behind2 (va_runS ⟨hx, hb, hml, hown, hts⟩ (hM H.size) (va_cwS n hts hG hw hrm.1 hrm.2 hd hR) ⟨Wd.calling, fun U hU hW => ⟨rfl, Wd.at hK hNW hZ hS hPc hDc hFc U hU hW⟩⟩ rfl hn hl.1 rfl (lv_room hcat) hdg hkn) hP hD hS isC isR hC hN (hR1.trans hR2.symm) (ha1.trans ha2.symm) hlen hcov hdis hFc (fun u hu H locs hP hD hS => kk u hu H locs ls hP hD hS hl)
theorem jk_SN2 (E : En D tys ε cc own Ts ret) {S : Type} {psi : S → Prop} {val : S → Option Value} {wo : S → va_W} {wc : va_W} {y : MethodName} {bytes : ByteArray} {maxL : Nat} {rt : Option FieldType} {w w' : List Cond} {rmc : Room} {As rest : List Value} {n index : Nat} (hM : Ct l y w rmc D tys As wc psi val wo) (hG : GoodIn Ts w) (hd : y.cls ≠ "java/lang/invoke/MethodHandle" ∧ y.cls ≠ "java/lang/invoke/VarHandle" ∧ (parseMethodDescriptor y.desc).map (fun d => d.parameters.length) = some n) (hq : (own, index, y) ∈ nwL) (hini : Cond.initialized y.cls ∈ Ts) (hsta : Cond.static y ∈ Ts) (hw : w = Cond.code y bytes maxL rt :: w') (hrm : rmc.cells = 0 ∧ rmc.slots = 0) (hR : rmc.frames + 1 ≤ rm.frames ∧ 8 + (maxL + 11) + rmc.locals ≤ rm.locals) (hn : As.length = n) (isC : List Nat) (hC : isC.map (fun i => ws[i]?) = wc.map some) (isR : List Nat) (ws' : va_W) (hN : ∀ u : S, isC.map (fun i => ws'[i]?) = (wo u).map some) (wr : va_W) (adr : List Nat) (hR1 : isR.map (fun i => ws'[i]?) = wr.map some) (hR2 : isR.map (fun i => ws[i]?) = wr.map some) (ha1 : ws'.map (fun q => q.1) = adr) (ha2 : ws.map (fun q => q.1) = adr) {n9 : Nat} (hlen : ws'.length = n9) (hcov : (List.range n9).all (fun i => isC.contains i || isR.contains i) = true) (hdis : isR.all (fun i => !isC.contains i) = true) (hst : st = As.reverse ++ rest) (hcat : (rest.map fun v => v.category).sum ≤ 8) (hdg : decode cc pc = .ok (.invokestatic index, 3)) (kk : ∀ u : S, psi u → JK l rm D ε kC nS ws' (pc + 3) lv ((val u).toList ++ rest)) (hnd : va_nd isC = true) (hkn : kC + 0 ≤ rm.cells ∧ nS + 0 ≤ rm.slots) : JK l rm D ε kC nS ws pc lv st := by
  obtain ⟨p, e, s, m, args, below, meth, c, Q, A, nL⟩ := ε
  obtain ⟨hx, hb, hml, hown, hts, hr, hlocks, hK, hA, hNW, hZ⟩ := E
  intro H locs ls hP hD hS hl
  subst hst
  have hPc : va_P D vwCl wc H := hP.sub isC (by
    have h9 := congrArg (List.filterMap id) hC
    simpa [List.filterMap_map, Function.comp_def] using h9)
  have hFc := va_free (wc := wc) hD hS hA isC hC
  have hDc := va_D_cut hD isC hnd hC
  exact jk_behind2 (va_runSN ⟨hx, hb, hml, hown, hts⟩ (hM H.size) ⟨va_cnB n hts hG hw hrm.1 hrm.2 (hNW _ hq) (hts _ hini) hd hR, hts _ hsta, trivial⟩ ⟨Wd.calling, fun U hU hW => ⟨rfl, Wd.at hK hNW hZ hS hPc hDc hFc U hU hW⟩⟩ rfl hn hl.1 rfl (lv_room hcat) hdg hkn) hP hD hS isC isR hC hN (hR1.trans hR2.symm) (ha1.trans ha2.symm) hlen hcov hdis hFc (fun u hu H locs hP hD hS => kk u hu H locs ls hP hD hS hl)
theorem jk_V2 (E : En D tys ε cc own Ts ret) {S : Type} {psi : S → Prop} {val : S → Option Value} {wo : S → va_W} {wc : va_W} {y : MethodName} {bytes : ByteArray} {maxL : Nat} {rt : Option FieldType} {w w' : List Cond} {rmc : Room} {As rest : List Value} {n index : Nat} {b : Nat} {C : String} {T : u_T} {N ci : Nat} {fs : List Value} (hM : Ct l y w rmc D tys (.ref b :: As) wc psi val wo) (hG : GoodIn Ts (wsV own index C y w)) (hd : y.cls = C ∧ y.cls ≠ "java/lang/invoke/MethodHandle" ∧ y.cls ≠ "java/lang/invoke/VarHandle" ∧ (parseMethodDescriptor y.desc).map (fun d => d.parameters.length) = some n) (hw : w = Cond.code y bytes maxL rt :: w') (hrm : rmc.cells = 0 ∧ rmc.slots = 0) (hR : rmc.frames + 1 ≤ rm.frames ∧ 8 + (maxL + 11) + rmc.locals ≤ rm.locals) (hn : As.length = n) (isC : List Nat) (hC : isC.map (fun i => ws[i]?) = wc.map some) (isR : List Nat) (ws' : va_W) (hN : ∀ u : S, isC.map (fun i => ws'[i]?) = (wo u).map some) (wr : va_W) (adr : List Nat) (hR1 : isR.map (fun i => ws'[i]?) = wr.map some) (hR2 : isR.map (fun i => ws[i]?) = wr.map some) (ha1 : ws'.map (fun q => q.1) = adr) (ha2 : ws.map (fun q => q.1) = adr) {n9 : Nat} (hlen : ws'.length = n9) (hcov : (List.range n9).all (fun i => isC.contains i || isR.contains i) = true) (hdis : isR.all (fun i => !isC.contains i) = true) (rq : Nat) (hrq : wc[rq]? = some (b, .inr (ci, fs))) (hrc : vwCl[ci]? = some (C, T, N)) (hst : st = As.reverse ++ .ref b :: rest) (hcat : (rest.map fun v => v.category).sum ≤ 8) (hdg : decode cc pc = .ok (.invokevirtual index, 3)) (kk : ∀ u : S, psi u → JK l rm D ε kC nS ws' (pc + 3) lv ((val u).toList ++ rest)) (hnd : va_nd isC = true) (hkn : kC + 0 ≤ rm.cells ∧ nS + 0 ≤ rm.slots) : JK l rm D ε kC nS ws pc lv st := by
  obtain ⟨p, e, s, m, args, below, meth, c, Q, A, nL⟩ := ε
  obtain ⟨hx, hb, hml, hown, hts, hr, hlocks, hK, hA, hNW, hZ⟩ := E
  intro H locs ls hP hD hS hl
  subst hst
  have hPc : va_P D vwCl wc H := hP.sub isC (by
    have h9 := congrArg (List.filterMap id) hC
    simpa [List.filterMap_map, Function.comp_def] using h9)
  have hFc := va_free (wc := wc) hD hS hA isC hC
  have hDc := va_D_cut hD isC hnd hC
  exact jk_behind2 (va_runV ⟨hx, hb, hml, hown, hts⟩ (hM H.size) (cwV n hts hG hw hrm.1 hrm.2 hd hR) ⟨Wd.calling, va_recv (q := (C, T, N)) hK hPc hrc hrq, fun U hU hW => ⟨rfl, Wd.at hK hNW hZ hS hPc hDc hFc U hU hW⟩⟩ rfl hn hl.1 rfl (lv_room hcat) hdg hkn) hP hD hS isC isR hC hN (hR1.trans hR2.symm) (ha1.trans ha2.symm) hlen hcov hdis hFc (fun u hu H locs hP hD hS => kk u hu H locs ls hP hD hS hl)
theorem jk_behind3 {p : Program} {e : Env} {s : State} {m : MethodId} {args : Array Value} {below : List Frame} {meth : Method} {c : Code} {Q : State → Prop} {A : Nat → Prop} {H : Heap} {locs : List Loc} {ls : Array Slot} {st0 rest : List Value} {S : Type} {psi : S → Prop} {val : S → Option Value} {wo : S → va_W} {wc : va_W} {ws' : S → va_W}
    (hr : va_Run p l e rm s m args below meth c H locs kC nS 0 0 (F0 m pc ls st0) rest (fun st oc t => (∃ u : S, oc = .returned (val u) ∧ psi u ∧ va_P D vwCl (wo u) t.heap) ∧ va_F (va_A wc H.size) st t) (va_A wc H.size))
    (hP : va_P D vwCl ws H) (hD : va_D A ws) (hS : va_S A s.heap H locs) (isC isR : List Nat) (hC : isC.map (fun i => ws[i]?) = wc.map some) (hN : ∀ u : S, isC.map (fun i => (ws' u)[i]?) = (wo u).map some) (hR : ∀ u : S, isR.map (fun i => (ws' u)[i]?) = isR.map (fun i => ws[i]?)) (hadr : ∀ u : S, (ws' u).map (fun q => q.1) = ws.map (fun q => q.1)) {n : Nat} (hlen : ∀ u : S, (ws' u).length = n) (hcov : (List.range n).all (fun i => isC.contains i || isR.contains i) = true) (hdis : isR.all (fun i => !isC.contains i) = true) (hF : ∀ q, va_A wc H.size q → A q)
    (kk : ∀ (u : S), psi u → ∀ (H1 : Heap) (locs1 : List Loc), va_P D vwCl (ws' u) H1 → va_D A (ws' u) → va_S A s.heap H1 locs1 → W p l e rm s m args below meth c H1 locs1 kC nS Q (F0 m (pc + 3) ls ((val u).toList ++ rest))) :
    W p l e rm s m args below meth c H locs kC nS Q (F0 m pc ls st0) := by
  intro T hT X
  obtain ⟨v, st₀, t, T', L, h0, X', hL, e1, e2, ⟨⟨u, hv, hp, hb⟩, hz, hk⟩, stp⟩ := hr T hT X
  have hv2 : v = val u := by cases hv; rfl
  subst hv2
  rw [h0] at hz hk
  rw [← e1] at hz hk hb
  obtain ⟨g1, g2⟩ := va_place2 hP hD isC isR hC (hN u) (hR u) (hadr u) (hlen u) hcov hdis hk hb
  obtain ⟨t2, a1, b1⟩ := kk u hp T'.heap (locs ++ L) g1 g2
    ⟨Nat.le_trans hS.1 hz, fun q h1 h2 => by rw [hk q (Nat.lt_of_lt_of_le h1 hS.1) (fun z => h2 (hF q z))]; exact hS.2.1 q h1 h2, fun q hq => by
      rcases List.mem_append.mp hq with h | h
      · exact hS.2.2 q h
      · exact hF _ (hL q h)⟩ T' rfl X'
  exact ⟨t2, stp t2 a1, b1⟩
theorem jk_S3 (E : En D tys ε cc own Ts ret) {S : Type} {psi : S → Prop} {val : S → Option Value} {wo : S → va_W} {wc : va_W} {y : MethodName} {bytes : ByteArray} {maxL : Nat} {rt : Option FieldType} {w w' : List Cond} {rmc : Room} {As rest : List Value} {n index : Nat} (hM : Ct l y w rmc D tys As wc psi val wo) (hG : GoodIn Ts (va_wsS own index y w)) (hd : y.cls ≠ "java/lang/invoke/MethodHandle" ∧ y.cls ≠ "java/lang/invoke/VarHandle" ∧ (parseMethodDescriptor y.desc).map (fun d => d.parameters.length) = some n) (hw : w = Cond.code y bytes maxL rt :: w') (hrm : rmc.cells = 0 ∧ rmc.slots = 0) (hR : rmc.frames + 1 ≤ rm.frames ∧ 8 + (maxL + 11) + rmc.locals ≤ rm.locals) (hn : As.length = n) (isC : List Nat) (hC : isC.map (fun i => ws[i]?) = wc.map some) (isR : List Nat) (ws' : S → va_W) (hN : ∀ u : S, isC.map (fun i => (ws' u)[i]?) = (wo u).map some) (wr : va_W) (adr : List Nat) (hR1 : ∀ u : S, isR.map (fun i => (ws' u)[i]?) = wr.map some) (hR2 : isR.map (fun i => ws[i]?) = wr.map some) (ha1 : ∀ u : S, (ws' u).map (fun q => q.1) = adr) (ha2 : ws.map (fun q => q.1) = adr) {n9 : Nat} (hlen : ∀ u : S, (ws' u).length = n9) (hcov : (List.range n9).all (fun i => isC.contains i || isR.contains i) = true) (hdis : isR.all (fun i => !isC.contains i) = true) (hst : st = As.reverse ++ rest) (hcat : (rest.map fun v => v.category).sum ≤ 8) (hdg : decode cc pc = .ok (.invokestatic index, 3)) (kk : ∀ u : S, psi u → JK l rm D ε kC nS (ws' u) (pc + 3) lv ((val u).toList ++ rest)) (hnd : va_nd isC = true) (hkn : kC + 0 ≤ rm.cells ∧ nS + 0 ≤ rm.slots) : JK l rm D ε kC nS ws pc lv st := by
  obtain ⟨p, e, s, m, args, below, meth, c, Q, A, nL⟩ := ε
  obtain ⟨hx, hb, hml, hown, hts, hr, hlocks, hK, hA, hNW, hZ⟩ := E
  intro H locs ls hP hD hS hl
  subst hst
  have hPc : va_P D vwCl wc H := hP.sub isC (by
    have h9 := congrArg (List.filterMap id) hC
    simpa [List.filterMap_map, Function.comp_def] using h9)
  have hFc := va_free (wc := wc) hD hS hA isC hC
  have hDc := va_D_cut hD isC hnd hC
  exact jk_behind3 (va_runS ⟨hx, hb, hml, hown, hts⟩ (hM H.size) (va_cwS n hts hG hw hrm.1 hrm.2 hd hR) ⟨Wd.calling, fun U hU hW => ⟨rfl, Wd.at hK hNW hZ hS hPc hDc hFc U hU hW⟩⟩ rfl hn hl.1 rfl (lv_room hcat) hdg hkn) hP hD hS isC isR hC hN (fun u => (hR1 u).trans hR2.symm) (fun u => (ha1 u).trans ha2.symm) hlen hcov hdis hFc (fun u hu H locs hP hD hS => kk u hu H locs ls hP hD hS hl)
theorem jk_V3 (E : En D tys ε cc own Ts ret) {S : Type} {psi : S → Prop} {val : S → Option Value} {wo : S → va_W} {wc : va_W} {y : MethodName} {bytes : ByteArray} {maxL : Nat} {rt : Option FieldType} {w w' : List Cond} {rmc : Room} {As rest : List Value} {n index : Nat} {b : Nat} {C : String} {T : u_T} {N ci : Nat} {fs : List Value} (hM : Ct l y w rmc D tys (.ref b :: As) wc psi val wo) (hG : GoodIn Ts (wsV own index C y w)) (hd : y.cls = C ∧ y.cls ≠ "java/lang/invoke/MethodHandle" ∧ y.cls ≠ "java/lang/invoke/VarHandle" ∧ (parseMethodDescriptor y.desc).map (fun d => d.parameters.length) = some n) (hw : w = Cond.code y bytes maxL rt :: w') (hrm : rmc.cells = 0 ∧ rmc.slots = 0) (hR : rmc.frames + 1 ≤ rm.frames ∧ 8 + (maxL + 11) + rmc.locals ≤ rm.locals) (hn : As.length = n) (isC : List Nat) (hC : isC.map (fun i => ws[i]?) = wc.map some) (isR : List Nat) (ws' : S → va_W) (hN : ∀ u : S, isC.map (fun i => (ws' u)[i]?) = (wo u).map some) (wr : va_W) (adr : List Nat) (hR1 : ∀ u : S, isR.map (fun i => (ws' u)[i]?) = wr.map some) (hR2 : isR.map (fun i => ws[i]?) = wr.map some) (ha1 : ∀ u : S, (ws' u).map (fun q => q.1) = adr) (ha2 : ws.map (fun q => q.1) = adr) {n9 : Nat} (hlen : ∀ u : S, (ws' u).length = n9) (hcov : (List.range n9).all (fun i => isC.contains i || isR.contains i) = true) (hdis : isR.all (fun i => !isC.contains i) = true) (rq : Nat) (hrq : wc[rq]? = some (b, .inr (ci, fs))) (hrc : vwCl[ci]? = some (C, T, N)) (hst : st = As.reverse ++ .ref b :: rest) (hcat : (rest.map fun v => v.category).sum ≤ 8) (hdg : decode cc pc = .ok (.invokevirtual index, 3)) (kk : ∀ u : S, psi u → JK l rm D ε kC nS (ws' u) (pc + 3) lv ((val u).toList ++ rest)) (hnd : va_nd isC = true) (hkn : kC + 0 ≤ rm.cells ∧ nS + 0 ≤ rm.slots) : JK l rm D ε kC nS ws pc lv st := by
  obtain ⟨p, e, s, m, args, below, meth, c, Q, A, nL⟩ := ε
  obtain ⟨hx, hb, hml, hown, hts, hr, hlocks, hK, hA, hNW, hZ⟩ := E
  intro H locs ls hP hD hS hl
  subst hst
  have hPc : va_P D vwCl wc H := hP.sub isC (by
    have h9 := congrArg (List.filterMap id) hC
    simpa [List.filterMap_map, Function.comp_def] using h9)
  have hFc := va_free (wc := wc) hD hS hA isC hC
  have hDc := va_D_cut hD isC hnd hC
  exact jk_behind3 (va_runV ⟨hx, hb, hml, hown, hts⟩ (hM H.size) (cwV n hts hG hw hrm.1 hrm.2 hd hR) ⟨Wd.calling, va_recv (q := (C, T, N)) hK hPc hrc hrq, fun U hU hW => ⟨rfl, Wd.at hK hNW hZ hS hPc hDc hFc U hU hW⟩⟩ rfl hn hl.1 rfl (lv_room hcat) hdg hkn) hP hD hS isC isR hC hN (fun u => (hR1 u).trans hR2.symm) (fun u => (ha1 u).trans ha2.symm) hlen hcov hdis hFc (fun u hu H locs hP hD hS => kk u hu H locs ls hP hD hS hl)
theorem arr_one {U : State} {t0 k1 : Nat} {c1 c2 : ClassId} {ty : FieldType} {t1 t2 : List (ClassId × FieldType)} (h1 : va_K D vwCl t1 U) (h2 : va_K D vwCl t2 U) (g1 : t1[t0]? = some (c1, ty)) (g2 : t2[k1]? = some (c2, ty)) : c1 = c2 := by
  have q1 := (h1.2 t0 _ g1).2
  have q2 := (h2.2 k1 _ g2).2
  have key : ∀ c, va_RA U c ty → U.vm.findClass ("[" ++ ty.toString) = some c := by
    intro c hc
    cases ty with
    | object C =>
      obtain ⟨_, _, _, _, _, h⟩ := hc
      exact h
    | _ => exact hc
  have e1 := key c1 q1
  have e2 := key c2 q2
  rw [e1] at e2
  exact Option.some.inj e2
theorem jk_perm (is : List Nat) (hn : va_nd is = true) {ws' : va_W} (hs : is.map (fun i => ws[i]?) = ws'.map some) (kk : JK l rm D ε kC nS ws' pc lv st) : JK l rm D ε kC nS ws pc lv st := by
  obtain ⟨p, e, s, m, args, below, meth, c, Q, A, nL⟩ := ε
  intro H locs ls hP hD hS hl
  have hP2 : va_P D vwCl ws' H := hP.sub is (by
    have h9 := congrArg (List.filterMap id) hs
    simpa [List.filterMap_map, Function.comp_def] using h9)
  exact kk H locs ls hP2 (hD.sub is hn hs) hS hl
theorem jk_putF (E : En D tys ε cc own Ts ret) {X : (Nat → Prop) → State → Heap → Prop} (XX : XE ε X "<init>") {C : String} {T : u_T} {N ci index : Nat} (hin : ∀ w ∈ u_ws C T N, w ∈ Ts) (ty0 : Nat → FieldType) (hty : ∀ k, k < N → parseFieldDescriptor (T k).2.2.1 = some (ty0 k)) (hnm : ∀ a, a < N → ∀ b, b < N → a ≠ b → (T a).2.1 ≠ (T b).2.1) (q0 : Nat) {a : Nat} {fs : List Value} (he : ws[q0]? = some (a, .inr (ci, fs))) (hc : vwCl[ci]? = some (C, T, N)) (kf : Nat) (hk : kf < N) (hlink : Cond.fieldLink own index (T kf).1 (T kf).2.1 (T kf).2.2.1 ∈ Ts) (hfin : (T kf).2.2.2 = true) (hdecl : (T kf).1 = own) {v : Value} (hn : narrow (ty0 kf) v = v) (hfit : fits (ty0 kf) v = true) (hl3 : kf < fs.length) {ws' : va_W} (hw : ws.set q0 (a, .inr (ci, fs.set kf v)) = ws') (hdg : decode cc pc = .ok (.putfield index, 3)) (kk : JK l rm D ε kC nS ws' (pc + 3) lv st) : JK l rm D ε kC nS ws pc lv (v :: .ref a :: st) := by
  obtain ⟨p, e, s, m, args, below, meth, c, Q, A, nL⟩ := ε
  obtain ⟨hx, hb, hml, hown, hts, hr, hlocks, hK, hA, hNW, hZ⟩ := E
  intro H locs ls hP hD hS hl
  exact va_putF hx hb hts hin ty0 hty hnm hown hK hP hD hS q0 he hc kf hk (hts _ hlink) (fun _ h => h) hfin XX.1 hdecl (hty kf hk) hn hfit hl3 hdg (fun H locs hP hD hS => kk H locs ls (hw ▸ hP) (hw ▸ hD) hS hl)
theorem jk_obj (E : En D tys ε cc own Ts ret) {index a : Nat} (h1 : Cond.methodLink own index Lib.objectInit ∈ Ts) (h2 : Cond.instanceMethod Lib.objectInit ∈ Ts) (h3 : Cond.code Lib.objectInit ⟨#[0xb1]⟩ 1 none ∈ Ts) (hdg : decode cc pc = .ok (.invokespecial index, 3)) (hf : 1 ≤ rm.frames) (hlo : 2 * 0 + (st.map fun v => v.category).sum + 12 ≤ rm.locals) (kk : JK l rm D ε kC nS ws (pc + 3) lv st) : JK l rm D ε kC nS ws pc lv (.ref a :: st) := by
  obtain ⟨p, e, s, m, args, below, meth, c, Q, A, nL⟩ := ε
  obtain ⟨hx, hb, hml, hown, hts, hr, hlocks, hK, hA, hNW, hZ⟩ := E
  intro H locs ls hP hD hS hl
  exact W.objInit hx hb hown (hts _ h1) (hts _ h2) (hts _ h3) rfl (hl.1.trans hml.symm) rfl hdg hf hlo (W.eq (g2 := F0 m (pc + 3) ls st) rfl (kk H locs ls hP hD hS hl))
theorem jk_new (E : En D tys ε cc own Ts ret) {C : String} {T : u_T} {N ci index : Nat} (hin : ∀ w ∈ u_ws C T N, w ∈ Ts) (ty0 : Nat → FieldType) (hty : ∀ k, k < N → parseFieldDescriptor (T k).2.2.1 = some (ty0 k)) (hcl : Cond.classLink own index C ∈ Ts) (hinst : Cond.instantiable C N ∈ Ts) (hini : Cond.initialized C ∈ Ts) (hc : vwCl[ci]? = some (C, T, N)) {fs : List Value} (hfs : ∀ j, j < N → defaultValue (ty0 j) = vp_V fs j) (k1 n1 : Nat) (hk1 : kC + 1 = k1) (hn1 : nS + N = n1) (hcells : k1 ≤ rm.cells) (hslots : n1 ≤ rm.slots) (hdg : decode cc pc = .ok (.new index, 3)) (kk : ∀ q : Nat, JK l rm D ε k1 n1 (ws ++ [(q, .inr (ci, fs))]) (pc + 3) lv (.ref q :: st)) : JK l rm D ε kC nS ws pc lv st := by
  subst hk1
  subst hn1
  obtain ⟨p, e, s, m, args, below, meth, c, Q, A, nL⟩ := ε
  obtain ⟨hx, hb, hml, hown, hts, hr, hlocks, hK, hA, hNW, hZ⟩ := E
  intro H locs ls hP hD hS hl
  exact va_new hx hb hts hin ty0 hty hown (hts _ hcl) (hts _ hinst) (hts _ hini) hK hP hD hS hA hc hfs hcells hslots hdg (fun q H1 h1 h2 h3 => kk q H1 locs ls h1 h2 h3 hl)
theorem jk_newa (E : En D tys ε cc own Ts ret) {atype : ArrayType} {ty : FieldType} (hty : newarray.typeOf atype = ty) (harr : Cond.arrayClass ty ∈ Ts) (t0 : Nat) {cA : ClassId} (ht : tys[t0]? = some (cA, ty)) {n : Int32} {N' : Nat} {a0 : vp_A} (ha : ∀ cA : ClassId, vp_cell cA a0 = arrV cA N' (fun _ => defaultValue ty)) (hn : ¬ n < 0) (hN : n.toNatClampNeg = N') (hbytes : N' * componentBytes ty ≤ 536870912) (k1 n1 : Nat) (hk1 : kC + 1 = k1) (hn1 : nS + N' = n1) (hcells : k1 ≤ rm.cells) (hslots : n1 ≤ rm.slots) (hdg : decode cc pc = .ok (.newarray atype, 2)) (kk : ∀ q : Nat, JK l rm D ε k1 n1 (ws ++ [(q, .inl (cA, a0))]) (pc + 2) lv (.ref q :: st)) : JK l rm D ε kC nS ws pc lv (.int n :: st) := by
  subst hk1
  subst hn1
  subst hty
  obtain ⟨p, e, s, m, args, below, meth, c, Q, A, nL⟩ := ε
  obtain ⟨hx, hb, hml, hown, hts, hr, hlocks, hK, hA, hNW, hZ⟩ := E
  intro H locs ls hP hD hS hl
  exact va_newa (atype := atype) hx hb (hts _ harr) rfl hK hP hD hS hA ha hn hN hbytes hcells hslots hdg (fun q cB H1 h0 h1 h2 h3 => by
    have hq := arr_one (c2 := cB) (t0 := t0) (k1 := tys.length) hK h0 ht (by rw [List.getElem?_append_right (Nat.le_refl _), Nat.sub_self]; rfl)
    subst hq
    exact kk q H1 locs ls h1 h2 h3 hl)
theorem jk_newq (E : En D tys ε cc own Ts ret) {C : String} {index : Nat} (hcl : Cond.classLink own index C ∈ Ts) {X : (Nat → Prop) → State → Heap → Prop} {nm : String} (XX : XE ε X nm) (hover : ∀ A U H, X A U H → va_AO C U) (t0 : Nat) {cA : ClassId} (ht : tys[t0]? = some (cA, .object C)) {n : Int32} {N' : Nat} (hn : ¬ n < 0) (hN : n.toNatClampNeg = N') (hbytes : N' * 4 ≤ 536870912) (k1 n1 : Nat) (hk1 : kC + 1 = k1) (hn1 : nS + N' = n1) (hcells : k1 ≤ rm.cells) (hslots : n1 ≤ rm.slots) (hdg : decode cc pc = .ok (.anewarray index, 3)) (kk : ∀ q : Nat, JK l rm D ε k1 n1 (ws ++ [(q, .inl (cA, N', .inr (.inr (.inr (.inr (fun _ => none))))))]) (pc + 3) lv (.ref q :: st)) : JK l rm D ε kC nS ws pc lv (.int n :: st) := by
  subst hk1
  subst hn1
  obtain ⟨p, e, s, m, args, below, meth, c, Q, A, nL⟩ := ε
  obtain ⟨hx, hb, hml, hown, hts, hr, hlocks, hK, hA, hNW, hZ⟩ := E
  intro H locs ls hP hD hS hl
  exact va_newq hx hb hown (hts _ hcl) (hover _ _ _ XX.2) hK hP hD hS hA hn hN hbytes hcells hslots hdg (fun q cB H1 h0 h1 h2 h3 => by
    have hq := arr_one (c2 := cB) (t0 := t0) (k1 := tys.length) hK h0 ht (by rw [List.getElem?_append_right (Nat.le_refl _), Nat.sub_self]; rfl)
    subst hq
    exact kk q H1 locs ls h1 h2 h3 hl)
theorem jk_aast (E : En D tys ε cc own Ts ret) (q0 t0 qk ci : Nat) {a : Nat} {cA : ClassId} {r : vw_C} {n v : Nat} {vs : List Value} {f : Nat → Option Nat} (ha : ws[q0]? = some (a, .inl (cA, n, .inr (.inr (.inr (.inr f)))))) (ht : tys[t0]? = some (cA, .object r.1)) (hv : ws[qk]? = some (v, .inr (ci, vs))) (hc : vwCl[ci]? = some r) {i : Int32} (hin : vp_in i n) {ws' : va_W} (hw : ws.set q0 (a, .inl (cA, n, .inr (.inr (.inr (.inr (va_up f i.toNatClampNeg (some v))))))) = ws') (hdg : decode cc pc = .ok (.aastore, 1)) (kk : JK l rm D ε kC nS ws' (pc + 1) lv st) : JK l rm D ε kC nS ws pc lv (.ref v :: .int i :: .ref a :: st) := by
  obtain ⟨p, e, s, m, args, below, meth, c, Q, A, nL⟩ := ε
  obtain ⟨hx, hb, hml, hown, hts, hr, hlocks, hK, hA, hNW, hZ⟩ := E
  intro H locs ls hP hD hS hl
  exact va_astq hx hb hK hP hD hS q0 t0 qk ci ha ht hv hc hin hdg (fun H locs hP hD hS => kk H locs ls (hw ▸ hP) (hw ▸ hD) hS hl)
theorem jk_iret {S : Type} {psi : S → Prop} {val : S → Option Value} {wo : S → va_W} (E : En D tys ε cc own Ts (some .int)) (F : FinK D ε kC nS psi val wo) {v : Int32} (hdg : decode cc pc = .ok (.ireturn, 1)) (u : S) (hu : psi u) (hv : val u = some (.int v)) (hw : wo u = ws) : JK l rm D ε kC nS ws pc lv [.int v] := by
  obtain ⟨p, e, s, m, args, below, meth, c, Q, A, nL⟩ := ε
  obtain ⟨hx, hb, hml, hown, hts, hr, hlocks, hK, hA, hNW, hZ⟩ := E
  intro H locs ls hP hD hS hl
  have hQ : Q = _ := F
  subst hQ
  exact W.iret hx hb hr (fun t ht hW => ⟨⟨u, by rw [hv], hu, by rw [hw, ht]; exact hP, by rw [hw]; exact hD⟩, hS.F ht⟩) hS.2.2 hdg
theorem jk_zret {ty : FieldType} {S : Type} {psi : S → Prop} {val : S → Option Value} {wo : S → va_W} (E : En D tys ε cc own Ts (some ty)) (F : FinK D ε kC nS psi val wo) {v : Int32} (hn : narrow ty (.int v) = .int v) (hdg : decode cc pc = .ok (.ireturn, 1)) (u : S) (hu : psi u) (hv : val u = some (.int v)) (hw : wo u = ws) : JK l rm D ε kC nS ws pc lv [.int v] := by
  obtain ⟨p, e, s, m, args, below, meth, c, Q, A, nL⟩ := ε
  obtain ⟨hx, hb, hml, hown, hts, hr, hlocks, hK, hA, hNW, hZ⟩ := E
  intro H locs ls hP hD hS hl
  have hQ : Q = _ := F
  subst hQ
  exact W.zret hx hb hr hn (fun t ht hW => ⟨⟨u, by rw [hv], hu, by rw [hw, ht]; exact hP, by rw [hw]; exact hD⟩, hS.F ht⟩) hS.2.2 hdg
theorem jk_vret {S : Type} {psi : S → Prop} {val : S → Option Value} {wo : S → va_W} (E : En D tys ε cc own Ts none) (F : FinK D ε kC nS psi val wo) (hdg : decode cc pc = .ok (.return_, 1)) (u : S) (hu : psi u) (hv : val u = none) (hw : wo u = ws) : JK l rm D ε kC nS ws pc lv [] := by
  obtain ⟨p, e, s, m, args, below, meth, c, Q, A, nL⟩ := ε
  obtain ⟨hx, hb, hml, hown, hts, hr, hlocks, hK, hA, hNW, hZ⟩ := E
  intro H locs ls hP hD hS hl
  have hQ : Q = _ := F
  subst hQ
  exact W.vret hx hb hr (fun t ht hW => ⟨⟨u, by rw [hv], hu, by rw [hw, ht]; exact hP, by rw [hw]; exact hD⟩, hS.F ht⟩) hS.2.2 hdg
theorem jk_behindK {p : Program} {e : Env} {s : State} {m : MethodId} {args : Array Value} {below : List Frame} {meth : Method} {c : Code} {Q : State → Prop} {A : Nat → Prop} {H : Heap} {locs : List Loc} {ls : Array Slot} {st0 rest : List Value} {S : Type} {psi : S → Prop} {val : S → Option Value} {wo : S → va_W} {wc wr : va_W} {ws' : S → va_W} {mc ms : Nat}
    (hr : va_Run p l e rm s m args below meth c H locs kC nS mc ms (F0 m pc ls st0) rest (fun st oc t => (∃ u : S, oc = .returned (val u) ∧ psi u ∧ va_P D vwCl (wo u) t.heap ∧ va_D (va_A wc H.size) (wo u)) ∧ va_F (va_A wc H.size) st t) (va_A wc H.size))
    (hP : va_P D vwCl ws H) (hD : va_D A ws) (hS : va_S A s.heap H locs) (isC isR : List Nat) (hC : isC.map (fun i => ws[i]?) = wc.map some) (hR : isR.map (fun i => ws[i]?) = wr.map some) (hnR : va_nd isR = true) (hdis : isR.all (fun i => !isC.contains i) = true) (pm : List Nat) (hpm : va_nd pm = true) (hpw : ∀ u : S, pm.map (fun i => (wr ++ wo u)[i]?) = (ws' u).map some) (hF : ∀ q, va_A wc H.size q → A q)
    (kk : ∀ (u : S), psi u → ∀ (H1 : Heap) (locs1 : List Loc), va_P D vwCl (ws' u) H1 → va_D A (ws' u) → va_S A s.heap H1 locs1 → W p l e rm s m args below meth c H1 locs1 (kC + mc) (nS + ms) Q (F0 m (pc + 3) ls ((val u).toList ++ rest))) :
    W p l e rm s m args below meth c H locs kC nS Q (F0 m pc ls st0) := by
  intro T hT X
  obtain ⟨v, st₀, t, T', L, h0, X', hL, e1, e2, ⟨⟨u, hv, hp, hb, hd⟩, hz, hk⟩, stp⟩ := hr T hT X
  have hv2 : v = val u := by cases hv; rfl
  subst hv2
  rw [h0] at hz hk
  rw [← e1] at hz hk hb
  have hdis2 : ∀ i ∈ isR, i ∉ isC := fun i hi hc => by
    have h9 := List.all_eq_true.mp hdis i hi
    rw [Bool.not_eq_true'] at h9
    have h8 : isC.contains i = true := List.contains_iff_mem.mpr hc
    rw [h8] at h9
    exact absurd h9 (by decide)
  obtain ⟨g1, g2⟩ := va_join hP hD isC isR hC hR hnR hdis2 hk hF hb hd
  have g3 : va_P D vwCl (ws' u) T'.heap := g1.sub pm (by
    have h9 := congrArg (List.filterMap id) (hpw u)
    simpa [List.filterMap_map, Function.comp_def] using h9)
  obtain ⟨t2, a1, b1⟩ := kk u hp T'.heap (locs ++ L) g3 (g2.sub pm hpm (hpw u))
    ⟨Nat.le_trans hS.1 hz, fun q h1 h2 => by rw [hk q (Nat.lt_of_lt_of_le h1 hS.1) (fun z => h2 (hF q z))]; exact hS.2.1 q h1 h2, fun q hq => by
      rcases List.mem_append.mp hq with h | h
      · exact hS.2.2 q h
      · exact hF _ (hL q h)⟩ T' rfl X'
  exact ⟨t2, stp t2 a1, b1⟩
theorem WdX.calling {ws0 : va_W} {sz : Nat} {av : List Value} {X : (Nat → Prop) → State → Heap → Prop} (hX : ∀ A u U H, u.vm.Alike U.vm → X A u H → X A U H) : FrameBlind (va_Pc av (fun U => Wd D tys ws0 sz U ∧ X (va_A ws0 sz) U U.heap)) := by
  intro a U g mk h
  obtain ⟨q0, ⟨q1, qP, qK, qD, qN, qZ⟩, qX⟩ := h
  exact ⟨q0, ⟨q1, qP, va_K.moved (u := U) (U := U.calling g mk a) (Vm.Alike.refl U.vm) qK, qD, NW.same (s := U) rfl qN, ZT.moved (u := U) (U := U.calling g mk a) (Vm.Alike.refl U.vm) qZ⟩, hX _ U (U.calling g mk a) _ (Vm.Alike.refl U.vm) qX⟩
theorem jk_I (E : En D tys ε cc own Ts ret) {S : Type} {psi : S → Prop} {val : S → Option Value} {wo : S → va_W} {wc : va_W} {y : MethodName} {bytes : ByteArray} {maxL : Nat} {w w' : List Cond} {rmc : Room} {X X2 : (Nat → Prop) → State → Heap → Prop} {nm : String} (XX : XE ε X2 nm) (hXm : ∀ A u U H, u.vm.Alike U.vm → X A u H → X A U H) (hXc : ∀ (A B : Nat → Prop) s U (H H1 : Heap), s.WarmedH U.vm → (∀ a : Nat, a < H.size → ¬ A a → H1[a]? = H[a]?) → (∀ q, B q → A q) → X2 A s H → X B U H1) {As rest : List Value} {n index mc ms b : Nat} (hM : CtK l y w rmc D tys X (.ref b :: As) wc mc ms psi val wo) (hG : GoodIn Ts w) (hyn : y.name = "<init>") (hini : Cond.initialized y.cls ∈ Ts) (hlk : Cond.methodLink own index y ∈ Ts) (him : Cond.instanceMethod y ∈ Ts) (hd : y.cls ≠ "java/lang/invoke/MethodHandle" ∧ y.cls ≠ "java/lang/invoke/VarHandle" ∧ (parseMethodDescriptor y.desc).map (fun d => d.parameters.length) = some n) (hw : w = Cond.code y bytes maxL none :: w') (hrm : rmc.cells = mc ∧ rmc.slots = ms) (hR9 : rmc.frames + 1 ≤ rm.frames ∧ 8 + (maxL + 11) + rmc.locals ≤ rm.locals) (hn : As.length = n) (isC : List Nat) (hC : isC.map (fun i => ws[i]?) = wc.map some) (isR : List Nat) {wr : va_W} (hR : isR.map (fun i => ws[i]?) = wr.map some) (hnR : va_nd isR = true) (hdis : isR.all (fun i => !isC.contains i) = true) (pm : List Nat) (hpm : va_nd pm = true) (ws' : S → va_W) (hpw : ∀ u : S, pm.map (fun i => (wr ++ wo u)[i]?) = (ws' u).map some) (hst : st = As.reverse ++ .ref b :: rest) (hcat : (rest.map fun v => v.category).sum ≤ 8) (hdg : decode cc pc = .ok (.invokespecial index, 3)) (k1 n1 : Nat) (hk1 : kC + mc = k1) (hn1 : nS + ms = n1) (hkn : k1 ≤ rm.cells ∧ n1 ≤ rm.slots) (hnd : va_nd isC = true) (kk : ∀ u : S, psi u → JK l rm D ε k1 n1 (ws' u) (pc + 3) lv ((val u).toList ++ rest)) : JK l rm D ε kC nS ws pc lv st := by
  subst hk1
  subst hn1
  obtain ⟨p, e, s, m, args, below, meth, c, Q, A, nL⟩ := ε
  obtain ⟨hx, hb, hml, hown, hts, hr, hlocks, hK, hA, hNW, hZ⟩ := E
  intro H locs ls hP hD hS hl
  subst hst
  have hPc : va_P D vwCl wc H := hP.sub isC (by
    have h9 := congrArg (List.filterMap id) hC
    simpa [List.filterMap_map, Function.comp_def] using h9)
  have hFc := va_free (wc := wc) hD hS hA isC hC
  have hDc := va_D_cut hD isC hnd hC
  exact jk_behindK (va_runI ⟨hx, hb, hml, hown, hts⟩ (hM H.size) (cwI n hts hG hw hrm.1 hrm.2 (hts _ hini) (hts _ hlk) (hts _ him) hyn hd hR9) ⟨WdX.calling hXm, fun U hU hW => ⟨rfl, Wd.at hK hNW hZ hS hPc hDc hFc U hU hW, hXc A _ s U s.heap U.heap hW (by rw [hU]; exact hS.2.1) hFc XX.2⟩⟩ rfl hn hl.1 rfl (lv_room hcat) hdg hkn) hP hD hS isC isR hC hR hnR hdis pm hpm hpw hFc (fun u hu H locs hP hD hS => kk u hu H locs ls hP hD hS hl)
theorem jk_IN (E : En D tys ε cc own Ts ret) {S : Type} {psi : S → Prop} {val : S → Option Value} {wo : S → va_W} {wc : va_W} {y : MethodName} {bytes : ByteArray} {maxL : Nat} {w w' : List Cond} {rmc : Room} {X X2 : (Nat → Prop) → State → Heap → Prop} {nm : String} (XX : XE ε X2 nm) (hXm : ∀ A u U H, u.vm.Alike U.vm → X A u H → X A U H) (hXc : ∀ (A B : Nat → Prop) s U (H H1 : Heap), s.WarmedH U.vm → (∀ a : Nat, a < H.size → ¬ A a → H1[a]? = H[a]?) → (∀ q, B q → A q) → X2 A s H → X B U H1) {As rest : List Value} {n index mc ms b : Nat} (hM : CtK l y w rmc D tys X (.ref b :: As) wc mc ms psi val wo) (hG : GoodIn Ts w) (hyn : y.name = "<init>") (hq : (own, index, y) ∈ nwL) (hini : Cond.initialized y.cls ∈ Ts) (him : Cond.instanceMethod y ∈ Ts) (hd : y.cls ≠ "java/lang/invoke/MethodHandle" ∧ y.cls ≠ "java/lang/invoke/VarHandle" ∧ (parseMethodDescriptor y.desc).map (fun d => d.parameters.length) = some n) (hw : w = Cond.code y bytes maxL none :: w') (hrm : rmc.cells = mc ∧ rmc.slots = ms) (hR9 : rmc.frames + 1 ≤ rm.frames ∧ 8 + (maxL + 11) + rmc.locals ≤ rm.locals) (hn : As.length = n) (isC : List Nat) (hC : isC.map (fun i => ws[i]?) = wc.map some) (isR : List Nat) {wr : va_W} (hR : isR.map (fun i => ws[i]?) = wr.map some) (hnR : va_nd isR = true) (hdis : isR.all (fun i => !isC.contains i) = true) (pm : List Nat) (hpm : va_nd pm = true) (ws' : S → va_W) (hpw : ∀ u : S, pm.map (fun i => (wr ++ wo u)[i]?) = (ws' u).map some) (hst : st = As.reverse ++ .ref b :: rest) (hcat : (rest.map fun v => v.category).sum ≤ 8) (hdg : decode cc pc = .ok (.invokespecial index, 3)) (k1 n1 : Nat) (hk1 : kC + mc = k1) (hn1 : nS + ms = n1) (hkn : k1 ≤ rm.cells ∧ n1 ≤ rm.slots) (hnd : va_nd isC = true) (kk : ∀ u : S, psi u → JK l rm D ε k1 n1 (ws' u) (pc + 3) lv ((val u).toList ++ rest)) : JK l rm D ε kC nS ws pc lv st := by
  subst hk1
  subst hn1
  obtain ⟨p, e, s, m, args, below, meth, c, Q, A, nL⟩ := ε
  obtain ⟨hx, hb, hml, hown, hts, hr, hlocks, hK, hA, hNW, hZ⟩ := E
  intro H locs ls hP hD hS hl
  subst hst
  have hPc : va_P D vwCl wc H := hP.sub isC (by
    have h9 := congrArg (List.filterMap id) hC
    simpa [List.filterMap_map, Function.comp_def] using h9)
  have hFc := va_free (wc := wc) hD hS hA isC hC
  have hDc := va_D_cut hD isC hnd hC
  exact jk_behindK (va_runIN ⟨hx, hb, hml, hown, hts⟩ (hM H.size) ⟨va_cnB n hts hG hw hrm.1 hrm.2 (hNW _ hq) (hts _ hini) hd hR9, hyn, hts _ him⟩ ⟨WdX.calling hXm, fun U hU hW => ⟨rfl, Wd.at hK hNW hZ hS hPc hDc hFc U hU hW, hXc A _ s U s.heap U.heap hW (by rw [hU]; exact hS.2.1) hFc XX.2⟩⟩ rfl hn hl.1 rfl (lv_room hcat) hdg hkn) hP hD hS isC isR hC hR hnR hdis pm hpm hpw hFc (fun u hu H locs hP hD hS => kk u hu H locs ls hP hD hS hl)
end RulesK
end JKBase
