section SBase
def itL : List Nat := [103, 51, 44, 50, 59, 111, 49, 59, 116, 50, 59, 114, 48, 44, 48, 44, 49, 44, 48, 44, 49, 59, 114, 48, 44, 49, 44, 48, 59, 114, 49, 44, 48, 44, 48, 59, 114, 49, 44, 48, 44, 49, 44, 49, 59, 114, 49, 44, 49, 44, 50, 59, 114, 49, 44, 49, 44, 48, 44, 49, 59]
def itB : List Int32 := [103, 51, 44, 50, 59, 111, 49, 59, 116, 50, 59, 114, 48, 44, 48, 44, 49, 44, 48, 44, 49, 59, 114, 48, 44, 49, 44, 48, 59, 114, 49, 44, 48, 44, 48, 59, 114, 49, 44, 48, 44, 49, 44, 49, 59, 114, 49, 44, 49, 44, 50, 59, 114, 49, 44, 49, 44, 48, 44, 49, 59]
def itS : String := "g3,2;o1;t2;r0,0,1,0,1;r0,1,0;r1,0,0;r1,0,1,1;r1,1,2;r1,1,0,1;"
def itx (i : Nat) : Nat := itL.getD i 0
theorem itx_b : ∀ i : Nat, i < 61 → itB.getD i 0 = nI (itx i) := by decide +kernel
theorem itx_lt (i : Nat) : itx i < 128 := by
  have h : ∀ z ∈ itL, z < 128 := by decide
  unfold itx
  rw [List.getD_eq_getElem?_getD]
  cases hq : itL[i]? with
  | none => decide
  | some z => exact h z (List.mem_of_getElem? hq)
/-- what is known of the solver's one text, of String's statics, and that a row of games can be made -/
def XT (ak av : Nat) (v9 : Value) (A : Nat → Prop) (U : State) (H : Heap) : Prop :=
  vk_S 1 [61] [itB] (fun _ => ak) (fun _ => av) A U H ∧ vk_R RX9 52 itS ak U ∧ va_Z RJ0 "COMPACT_STRINGS" "Z" (.int (nI 1)) A U H ∧ va_Z RJ3 "SIOOBE_FORMATTER" "Ljava/util/function/BiFunction;" v9 A U H ∧ va_AO RX1 U
def XA (_ : Nat → Prop) (U : State) (_ : Heap) : Prop := va_AO RX1 U
def XN (_ : Nat → Prop) (_ : State) (_ : Heap) : Prop := True
theorem XN.m : ∀ A u U H, u.vm.Alike U.vm → XN A u H → XN A U H := fun _ _ _ _ _ _ => trivial
theorem XN.c (X2 : (Nat → Prop) → State → Heap → Prop) : ∀ (A B : Nat → Prop) s U (H H1 : Heap), s.WarmedH U.vm → (∀ a : Nat, a < H.size → ¬ A a → H1[a]? = H[a]?) → (∀ q, B q → A q) → X2 A s H → XN B U H1 := fun _ _ _ _ _ _ _ _ _ _ => trivial
theorem XA.m : ∀ A u U H, u.vm.Alike U.vm → XA A u H → XA A U H := fun _ _ _ _ h g => va_AO.moved h g
theorem XA.c (ak av : Nat) (v9 : Value) : ∀ (A B : Nat → Prop) s U (H H1 : Heap), s.WarmedH U.vm → (∀ a : Nat, a < H.size → ¬ A a → H1[a]? = H[a]?) → (∀ q, B q → A q) → XT ak av v9 A s H → XA B U H1 := fun _ _ _ _ _ _ hW _ _ h => va_AO.moved hW.alike h.2.2.2.2
theorem XT.c (ak av : Nat) (v9 : Value) : ∀ (A B : Nat → Prop) s U (H H1 : Heap), s.WarmedH U.vm → (∀ a : Nat, a < H.size → ¬ A a → H1[a]? = H[a]?) → (∀ q, B q → A q) → XT ak av v9 A s H → XT ak av v9 B U H1 :=
  fun _ _ _ _ _ _ hW hk hAB h => ⟨((h.1.kept hk).narrow hAB).moved hW.alike, h.2.1.warm hW, ((h.2.2.1.kept hk).narrow hAB).moved hW.alike, ((h.2.2.2.1.kept hk).narrow hAB).moved hW.alike, va_AO.moved hW.alike h.2.2.2.2⟩
section RulesX
variable {l : Launch} {rm : Room} {D : va_G} {tys : List (ClassId × FieldType)} {ε : EnvT} {cc : ByteArray} {own : String} {Ts : List Cond} {ret : Option FieldType} {kC nS : Nat} {ws : va_W} {pc : Nat} {lv : List (Nat × Value)} {st : List Value} {ak av : Nat} {v9 : Value} {nm : String}
theorem jk_ldcS (E : En D tys ε cc RX9 Ts ret) (XX : XE ε (XT ak av v9) nm) (hdg : decode cc pc = .ok (.ldc 52, 2)) (kk : JK l rm D ε kC nS ws (pc + 2) lv (.ref ak :: st)) : JK l rm D ε kC nS ws pc lv st := by
  obtain ⟨p, e, s, m, args, below, meth, c, Q, A, nL⟩ := ε
  obtain ⟨hx, hb, hml, hown, hts, hr, hlocks, hK, hA, hNW, hZ⟩ := E
  intro H locs ls hP hD hS hl
  exact va_ldcS hx hb hown XX.2.2.1 hdg (kk H locs ls hP hD hS hl)
theorem jk_cmp (E : En D tys ε cc own Ts ret) (XX : XE ε (XT ak av v9) nm) {index : Nat} (hlink : Cond.fieldLink own index RJ0 "COMPACT_STRINGS" "Z" ∈ Ts) (hdg : decode cc pc = .ok (.getstatic index, 3)) (kk : JK l rm D ε kC nS ws (pc + 3) lv (.int (nI 1) :: st)) : JK l rm D ε kC nS ws pc lv st := by
  obtain ⟨p, e, s, m, args, below, meth, c, Q, A, nL⟩ := ε
  obtain ⟨hx, hb, hml, hown, hts, hr, hlocks, hK, hA, hNW, hZ⟩ := E
  intro H locs ls hP hD hS hl
  exact va_gets hx hb XX.2.2.2.1 hS hown (hts _ hlink) (fun _ h => h) hdg (kk H locs ls hP hD hS hl)
theorem jk_sio (E : En D tys ε cc own Ts ret) (XX : XE ε (XT ak av v9) nm) {index : Nat} (hlink : Cond.fieldLink own index RJ3 "SIOOBE_FORMATTER" "Ljava/util/function/BiFunction;" ∈ Ts) (hdg : decode cc pc = .ok (.getstatic index, 3)) (kk : JK l rm D ε kC nS ws (pc + 3) lv (v9 :: st)) : JK l rm D ε kC nS ws pc lv st := by
  obtain ⟨p, e, s, m, args, below, meth, c, Q, A, nL⟩ := ε
  obtain ⟨hx, hb, hml, hown, hts, hr, hlocks, hK, hA, hNW, hZ⟩ := E
  intro H locs ls hP hD hS hl
  exact va_gets hx hb XX.2.2.2.2.1 hS hown (hts _ hlink) (fun _ h => h) hdg (kk H locs ls hP hD hS hl)
theorem jk_coder (E : En D tys ε cc own Ts ret) (XX : XE ε (XT ak av v9) nm) {index : Nat} (hlink : Cond.fieldLink own index RJ0 "coder" "B" ∈ Ts) (hdg : decode cc pc = .ok (.getfield index, 3)) (kk : JK l rm D ε kC nS ws (pc + 3) lv (.int (nI 0) :: st)) : JK l rm D ε kC nS ws pc lv (.ref ak :: st) := by
  obtain ⟨p, e, s, m, args, below, meth, c, Q, A, nL⟩ := ε
  obtain ⟨hx, hb, hml, hown, hts, hr, hlocks, hK, hA, hNW, hZ⟩ := E
  intro H locs ls hP hD hS hl
  exact vk_getf hx hb (XX.2.1.1 0 (by decide)).2.1 hS hown (hts _ hlink) (fun _ h => h) hdg (kk H locs ls hP hD hS hl)
theorem jk_value (E : En D tys ε cc own Ts ret) (XX : XE ε (XT ak av v9) nm) {index : Nat} (hlink : Cond.fieldLink own index RJ0 "value" "[B" ∈ Ts) (hdg : decode cc pc = .ok (.getfield index, 3)) (kk : JK l rm D ε kC nS ws (pc + 3) lv (.ref av :: st)) : JK l rm D ε kC nS ws pc lv (.ref ak :: st) := by
  obtain ⟨p, e, s, m, args, below, meth, c, Q, A, nL⟩ := ε
  obtain ⟨hx, hb, hml, hown, hts, hr, hlocks, hK, hA, hNW, hZ⟩ := E
  intro H locs ls hP hD hS hl
  exact vk_getf hx hb (XX.2.1.1 0 (by decide)).2.2.1 hS hown (hts _ hlink) (fun _ h => h) hdg (kk H locs ls hP hD hS hl)
theorem jk_vlen (E : En D tys ε cc own Ts ret) (XX : XE ε (XT ak av v9) nm) (hdg : decode cc pc = .ok (.arraylength, 1)) (kk : JK l rm D ε kC nS ws (pc + 1) lv (.int (nI 61) :: st)) : JK l rm D ε kC nS ws pc lv (.ref av :: st) := by
  obtain ⟨p, e, s, m, args, below, meth, c, Q, A, nL⟩ := ε
  obtain ⟨hx, hb, hml, hown, hts, hr, hlocks, hK, hA, hNW, hZ⟩ := E
  intro H locs ls hP hD hS hl
  exact va_tlen hx hb (XX.2.1.1 0 (by decide)).2.2.2 hS rfl hdg (kk H locs ls hP hD hS hl)
theorem jk_vat (E : En D tys ε cc own Ts ret) (XX : XE ε (XT ak av v9) nm) {i : Nat} (hi : i < 61) (hdg : decode cc pc = .ok (.baload, 1)) (kk : JK l rm D ε kC nS ws (pc + 1) lv (.int (nI (itx i)) :: st)) : JK l rm D ε kC nS ws pc lv (.int (nI i) :: .ref av :: st) := by
  obtain ⟨p, e, s, m, args, below, meth, c, Q, A, nL⟩ := ε
  obtain ⟨hx, hb, hml, hown, hts, hr, hlocks, hK, hA, hNW, hZ⟩ := E
  intro H locs ls hP hD hS hl
  exact va_tb hx hb (XX.2.1.1 0 (by decide)).2.2.2 hS (vp_in_nI hi (by decide)) (by rw [nI_clamp (by omega)]; exact congrArg Value.int (itx_b i hi)) hdg (kk H locs ls hP hD hS hl)
theorem jk_behind0 {p : Program} {e : Env} {s : State} {m : MethodId} {args : Array Value} {below : List Frame} {meth : Method} {c : Code} {Q : State → Prop} {A : Nat → Prop} {H : Heap} {locs : List Loc} {ls : Array Slot} {st0 rest : List Value} {S : Type} {psi : S → Prop} {val : S → Option Value} {wo : S → va_W}
    (hr : va_Run p l e rm s m args below meth c H locs kC nS 0 0 (F0 m pc ls st0) rest (fun st oc t => (∃ u : S, oc = .returned (val u) ∧ psi u ∧ va_P D vwCl (wo u) t.heap ∧ va_D (va_A [] H.size) (wo u)) ∧ va_F (va_A [] H.size) st t) (va_A [] H.size))
    (hP : va_P D vwCl ws H) (hD : va_D A ws) (hS : va_S A s.heap H locs) (hF : ∀ q, va_A [] H.size q → A q)
    (kk : ∀ (u : S), psi u → ∀ (H1 : Heap) (locs1 : List Loc), va_P D vwCl ws H1 → va_D A ws → va_S A s.heap H1 locs1 → W p l e rm s m args below meth c H1 locs1 kC nS Q (F0 m (pc + 3) ls ((val u).toList ++ rest))) :
    W p l e rm s m args below meth c H locs kC nS Q (F0 m pc ls st0) := by
  intro T hT X
  obtain ⟨v, st₀, t, T', L, h0, X', hL, e1, e2, ⟨⟨u, hv, hp, -, -⟩, hz, hk⟩, stp⟩ := hr T hT X
  have hv2 : v = val u := by cases hv; rfl
  subst hv2
  rw [h0] at hz hk
  rw [← e1] at hz hk
  have hno : ∀ q : Nat, q < H.size → ¬ va_A [] H.size q := fun q hq h => by
    rcases h with ⟨k, e, h⟩ | h
    · simp at h
    · omega
  have g1 : va_P D vwCl ws T'.heap := fun k q hq => (hP k q hq).kept (hk q.1 ((hP k q hq).lt) (hno _ ((hP k q hq).lt)))
  obtain ⟨t2, a1, b1⟩ := kk u hp T'.heap (locs ++ L) g1 hD
    ⟨Nat.le_trans hS.1 hz, fun q h1 h2 => by rw [hk q (Nat.lt_of_lt_of_le h1 hS.1) (fun z => h2 (hF q z))]; exact hS.2.1 q h1 h2, fun q hq => by
      rcases List.mem_append.mp hq with h | h
      · exact hS.2.2 q h
      · exact hF _ (hL q h)⟩ T' rfl X'
  exact ⟨t2, stp t2 a1, b1⟩
theorem jk_SX (E : En D tys ε cc own Ts ret) {S : Type} {psi : S → Prop} {val : S → Option Value} {wo : S → va_W} {y : MethodName} {bytes : ByteArray} {maxL : Nat} {rt : Option FieldType} {w w' : List Cond} {rmc : Room} (XX : XE ε (XT ak av v9) nm) {As rest : List Value} {n index : Nat} (hM : CtK l y w rmc D tys (XT ak av v9) As [] 0 0 psi val wo) (hG : GoodIn Ts (va_wsS own index y w)) (hd : y.cls ≠ "java/lang/invoke/MethodHandle" ∧ y.cls ≠ "java/lang/invoke/VarHandle" ∧ (parseMethodDescriptor y.desc).map (fun d => d.parameters.length) = some n) (hw : w = Cond.code y bytes maxL rt :: w') (hrm : rmc.cells = 0 ∧ rmc.slots = 0) (hR9 : rmc.frames + 1 ≤ rm.frames ∧ 8 + (maxL + 11) + rmc.locals ≤ rm.locals) (hn : As.length = n) (hst : st = As.reverse ++ rest) (hcat : (rest.map fun v => v.category).sum ≤ 8) (hdg : decode cc pc = .ok (.invokestatic index, 3)) (hkn : kC + 0 ≤ rm.cells ∧ nS + 0 ≤ rm.slots) (kk : ∀ u : S, psi u → JK l rm D ε kC nS ws (pc + 3) lv ((val u).toList ++ rest)) : JK l rm D ε kC nS ws pc lv st := by
  obtain ⟨p, e, s, m, args, below, meth, c, Q, A, nL⟩ := ε
  obtain ⟨hx, hb, hml, hown, hts, hr, hlocks, hK, hA, hNW, hZ⟩ := E
  intro H locs ls hP hD hS hl
  subst hst
  have hFc : ∀ q, va_A [] H.size q → A q := fun q h => by
    rcases h with ⟨k, e, h⟩ | h
    · simp at h
    · exact hA q (Nat.le_trans hS.1 h)
  have hPc : va_P D vwCl [] H := fun k q hq => by simp at hq
  have hDc : va_D A [] := ⟨fun i j p q hp => by simp at hp, fun k q hq => by simp at hq⟩
  have hXm : ∀ A u U H, u.vm = U.vm → XT ak av v9 A u H → XT ak av v9 A U H := fun A u U H hv h => ⟨h.1.moved (hv ▸ Vm.Alike.refl u.vm), h.2.1.same hv.symm, h.2.2.1.moved (hv ▸ Vm.Alike.refl u.vm), h.2.2.2.1.moved (hv ▸ Vm.Alike.refl u.vm), va_AO.moved (hv ▸ Vm.Alike.refl u.vm) h.2.2.2.2⟩
  have hcall : ∀ avv : List Value, FrameBlind (va_Pc avv (fun U => Wd D tys [] H.size U ∧ XT ak av v9 (va_A [] H.size) U U.heap)) := fun avv a U g mk h => by
    obtain ⟨q0, ⟨q1, qP, qK, qD, qN, qZ⟩, qX⟩ := h
    exact ⟨q0, ⟨q1, qP, va_K.moved (u := U) (U := U.calling g mk a) (Vm.Alike.refl U.vm) qK, qD, NW.same (s := U) rfl qN, ZT.moved (u := U) (U := U.calling g mk a) (Vm.Alike.refl U.vm) qZ⟩, hXm _ U (U.calling g mk a) _ rfl qX⟩
  exact jk_behind0 (va_runS ⟨hx, hb, hml, hown, hts⟩ (hM H.size) (va_cwS n hts hG hw hrm.1 hrm.2 hd hR9) ⟨hcall _, fun U hU hW => ⟨rfl, Wd.at hK hNW hZ hS hPc hDc hFc U hU hW, XT.c ak av v9 A _ s U s.heap U.heap hW (by rw [hU]; exact hS.2.1) hFc XX.2⟩⟩ rfl hn hl.1 rfl (lv_room hcat) hdg hkn) hP hD hS hFc (fun u hu H locs hP hD hS => kk u hu H locs ls hP hD hS hl)
theorem jk_VX (E : En D tys ε cc own Ts ret) {S : Type} {psi : S → Prop} {val : S → Option Value} {wo : S → va_W} {y : MethodName} {bytes : ByteArray} {maxL : Nat} {rt : Option FieldType} {w w' : List Cond} {rmc : Room} (XX : XE ε (XT ak av v9) nm) {As rest : List Value} {n index : Nat} (hM : CtK l y w rmc D tys (XT ak av v9) (.ref ak :: As) [] 0 0 psi val wo) (hG : GoodIn Ts (wsV own index RJ0 y w)) (hd : y.cls = RJ0 ∧ y.cls ≠ "java/lang/invoke/MethodHandle" ∧ y.cls ≠ "java/lang/invoke/VarHandle" ∧ (parseMethodDescriptor y.desc).map (fun d => d.parameters.length) = some n) (hw : w = Cond.code y bytes maxL rt :: w') (hrm : rmc.cells = 0 ∧ rmc.slots = 0) (hR9 : rmc.frames + 1 ≤ rm.frames ∧ 8 + (maxL + 11) + rmc.locals ≤ rm.locals) (hn : As.length = n) (hst : st = As.reverse ++ .ref ak :: rest) (hcat : (rest.map fun v => v.category).sum ≤ 8) (hdg : decode cc pc = .ok (.invokevirtual index, 3)) (hkn : kC + 0 ≤ rm.cells ∧ nS + 0 ≤ rm.slots) (kk : ∀ u : S, psi u → JK l rm D ε kC nS ws (pc + 3) lv ((val u).toList ++ rest)) : JK l rm D ε kC nS ws pc lv st := by
  obtain ⟨p, e, s, m, args, below, meth, c, Q, A, nL⟩ := ε
  obtain ⟨hx, hb, hml, hown, hts, hr, hlocks, hK, hA, hNW, hZ⟩ := E
  intro H locs ls hP hD hS hl
  subst hst
  have hFc : ∀ q, va_A [] H.size q → A q := fun q h => by
    rcases h with ⟨k, e, h⟩ | h
    · simp at h
    · exact hA q (Nat.le_trans hS.1 h)
  have hPc : va_P D vwCl [] H := fun k q hq => by simp at hq
  have hDc : va_D A [] := ⟨fun i j p q hp => by simp at hp, fun k q hq => by simp at hq⟩
  have hXm : ∀ A u U H, u.vm = U.vm → XT ak av v9 A u H → XT ak av v9 A U H := fun A u U H hv h => ⟨h.1.moved (hv ▸ Vm.Alike.refl u.vm), h.2.1.same hv.symm, h.2.2.1.moved (hv ▸ Vm.Alike.refl u.vm), h.2.2.2.1.moved (hv ▸ Vm.Alike.refl u.vm), va_AO.moved (hv ▸ Vm.Alike.refl u.vm) h.2.2.2.2⟩
  have hcall : ∀ avv : List Value, FrameBlind (va_Pc avv (fun U => Wd D tys [] H.size U ∧ XT ak av v9 (va_A [] H.size) U U.heap)) := fun avv a U g mk h => by
    obtain ⟨q0, ⟨q1, qP, qK, qD, qN, qZ⟩, qX⟩ := h
    exact ⟨q0, ⟨q1, qP, va_K.moved (u := U) (U := U.calling g mk a) (Vm.Alike.refl U.vm) qK, qD, NW.same (s := U) rfl qN, ZT.moved (u := U) (U := U.calling g mk a) (Vm.Alike.refl U.vm) qZ⟩, hXm _ U (U.calling g mk a) _ rfl qX⟩
  exact jk_behind0 (va_runV ⟨hx, hb, hml, hown, hts⟩ (hM H.size) (cwV n hts hG hw hrm.1 hrm.2 hd hR9) ⟨hcall _, vk_recv XX.2.1 (i := 0) (by decide) hS, fun U hU hW => ⟨rfl, Wd.at hK hNW hZ hS hPc hDc hFc U hU hW, XT.c ak av v9 A _ s U s.heap U.heap hW (by rw [hU]; exact hS.2.1) hFc XX.2⟩⟩ rfl hn hl.1 rfl (lv_room hcat) hdg hkn) hP hD hS hFc (fun u hu H locs hP hD hS => kk u hu H locs ls hP hD hS hl)
theorem jk_cell (q0 : Nat) {a : Nat} {cA : ClassId} {n : Nat} {f g : Nat → Option Nat} (ha : ws[q0]? = some (a, .inl (cA, n, .inr (.inr (.inr (.inr f)))))) (hfg : ∀ i, i < n → f i = g i) {ws' : va_W} (hw : ws.set q0 (a, .inl (cA, n, .inr (.inr (.inr (.inr g))))) = ws') (kk : JK l rm D ε kC nS ws' pc lv st) : JK l rm D ε kC nS ws pc lv st := by
  obtain ⟨p, e, s, m, args, below, meth, c, Q, A, nL⟩ := ε
  intro H locs ls hP hD hS hl
  subst hw
  refine kk H locs ls (fun k q hq => ?_) (va_D_adr hD ?_) hS hl
  · by_cases hk : q0 = k
    · subst hk
      have hlt : q0 < ws.length := (List.getElem?_eq_some_iff.mp ha).1
      rw [List.getElem?_set_self hlt] at hq
      have hq2 := Option.some.inj hq
      have h1 := hP q0 _ ha
      rw [← hq2]
      have e1 : vp_cell cA (n, .inr (.inr (.inr (.inr f)))) = vp_cell cA (n, .inr (.inr (.inr (.inr g)))) := by
        show arrV cA n (fun j => va_rf (f j)) = arrV cA n (fun j => va_rf (g j))
        unfold arrV
        congr 1
        exact congrArg Array.ofFn (funext (fun j => congrArg va_rf (hfg j j.isLt)))
      show H[a]? = some (vp_cell cA (n, .inr (.inr (.inr (.inr g)))))
      rw [← e1]
      exact h1
    · rw [List.getElem?_set_ne hk] at hq
      exact hP k q hq
  · rw [List.map_set]
    apply List.ext_getElem?
    intro k
    rw [List.getElem?_set]
    by_cases hk : q0 = k
    · subst hk
      have hlt : q0 < ws.length := (List.getElem?_eq_some_iff.mp ha).1
      rw [if_pos rfl, if_pos (by simpa using hlt), List.getElem?_map, ha]
      rfl
    · rw [if_neg hk]
end RulesX
end SBase
