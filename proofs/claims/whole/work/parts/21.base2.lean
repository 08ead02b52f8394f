section J2
variable {l : Launch} {rm : Room} {D : va_G} {tys : List (ClassId × FieldType)} {ε : EnvT} {cc : ByteArray} {own : String} {Ts : List Cond} {ret : Option FieldType} {ws : va_W} {pc : Nat} {lv : List (Nat × Value)} {st : List Value}

theorem j_copyi (E : En D tys ε cc own Ts ret) {index : Nat} (hlink : Cond.methodLink own index arraycopyName ∈ Ts) (hnat : Cond.native arraycopyName ∈ Ts) (hstat : Cond.static arraycopyName ∈ Ts) (hini : Cond.initialized "java/lang/System" ∈ Ts) (q0 q1 t0 t1 : Nat) {a a0 : Nat} {c0 c1 : ClassId} {n0 n1 : Nat} {f g : Nat → Int32} {ty : FieldType} (ha0 : ws[q0]? = some (a0, .inl (c0, n0, .inl (f)))) (ha1 : ws[q1]? = some (a, .inl (c1, n1, .inl (g)))) (ht0 : tys[t0]? = some (c0, ty)) (ht1 : tys[t1]? = some (c1, ty)) (hprim : refKind ty = false) {sp dp n : Int32} (h1 : ¬ sp < 0) (h2 : ¬ dp < 0) (h3 : ¬ n < 0) (h4 : sp.toNatClampNeg + n.toNatClampNeg ≤ n0) (h5 : dp.toNatClampNeg + n.toNatClampNeg ≤ n1) (hfit : ∀ i, i < n.toNatClampNeg → fits ty (.int (f (sp.toNatClampNeg + i))) = true) (hfr : 1 ≤ rm.frames) (hlo : (st.map fun v => v.category).sum + (nativeFrameWords "java/lang/System" "arraycopy" 5 + 11) ≤ rm.locals) {ws' : va_W} (hw : ws.set q1 (a, .inl (c1, n1, .inl (va_cpy f g sp.toNatClampNeg dp.toNatClampNeg n.toNatClampNeg))) = ws') (hdg : decode cc pc = .ok (.invokestatic index, 3)) (kk : J l rm D ε ws' (pc + 3) lv (st)) : J l rm D ε ws pc lv (.int n :: .int dp :: .ref a :: .int sp :: .ref a0 :: st) := by
  obtain ⟨p, e, s, m, args, below, meth, c, Q, A, nL⟩ := ε
  obtain ⟨hx, hb, hml, hown, hts, hr, hlocks, hK, hA, hNW, hZ⟩ := E
  intro H locs ls hP hD hS hl
  exact va_copyi hx hb (hml.trans hl.1.symm) hown (hts _ hlink) (hts _ hnat) (hts _ hstat) (hts _ hini) hK hP hD hS q0 q1 t0 t1 ha0 ha1 ht0 ht1 hprim h1 h2 h3 h4 h5 hfit hfr hlo hdg (fun H locs hP hD hS => kk H locs ls (hw ▸ hP) (hw ▸ hD) hS hl)
theorem j_copyl (E : En D tys ε cc own Ts ret) {index : Nat} (hlink : Cond.methodLink own index arraycopyName ∈ Ts) (hnat : Cond.native arraycopyName ∈ Ts) (hstat : Cond.static arraycopyName ∈ Ts) (hini : Cond.initialized "java/lang/System" ∈ Ts) (q0 q1 t0 t1 : Nat) {a a0 : Nat} {c0 c1 : ClassId} {n0 n1 : Nat} {f g : Nat → Int64} {ty : FieldType} (ha0 : ws[q0]? = some (a0, .inl (c0, n0, .inr (.inl (f))))) (ha1 : ws[q1]? = some (a, .inl (c1, n1, .inr (.inl (g))))) (ht0 : tys[t0]? = some (c0, ty)) (ht1 : tys[t1]? = some (c1, ty)) (hprim : refKind ty = false) {sp dp n : Int32} (h1 : ¬ sp < 0) (h2 : ¬ dp < 0) (h3 : ¬ n < 0) (h4 : sp.toNatClampNeg + n.toNatClampNeg ≤ n0) (h5 : dp.toNatClampNeg + n.toNatClampNeg ≤ n1) (hfit : ∀ i, i < n.toNatClampNeg → fits ty (.long (f (sp.toNatClampNeg + i))) = true) (hfr : 1 ≤ rm.frames) (hlo : (st.map fun v => v.category).sum + (nativeFrameWords "java/lang/System" "arraycopy" 5 + 11) ≤ rm.locals) {ws' : va_W} (hw : ws.set q1 (a, .inl (c1, n1, .inr (.inl (va_cpy f g sp.toNatClampNeg dp.toNatClampNeg n.toNatClampNeg)))) = ws') (hdg : decode cc pc = .ok (.invokestatic index, 3)) (kk : J l rm D ε ws' (pc + 3) lv (st)) : J l rm D ε ws pc lv (.int n :: .int dp :: .ref a :: .int sp :: .ref a0 :: st) := by
  obtain ⟨p, e, s, m, args, below, meth, c, Q, A, nL⟩ := ε
  obtain ⟨hx, hb, hml, hown, hts, hr, hlocks, hK, hA, hNW, hZ⟩ := E
  intro H locs ls hP hD hS hl
  exact va_copyl hx hb (hml.trans hl.1.symm) hown (hts _ hlink) (hts _ hnat) (hts _ hstat) (hts _ hini) hK hP hD hS q0 q1 t0 t1 ha0 ha1 ht0 ht1 hprim h1 h2 h3 h4 h5 hfit hfr hlo hdg (fun H locs hP hD hS => kk H locs ls (hw ▸ hP) (hw ▸ hD) hS hl)
theorem j_min (E : En D tys ε cc own Ts ret) {index : Nat} {x y : Int32} (hlink : Cond.methodLink own index Lib.Math.min.name ∈ Ts) (hstat : Cond.static Lib.Math.min.name ∈ Ts) (hini : Cond.initialized "java/lang/Math" ∈ Ts) (hcode : Cond.code Lib.Math.min.name Lib.Math.min.code 2 (some .int) ∈ Ts) (hfr : 1 ≤ rm.frames) (hlo : (st.map fun v => v.category).sum + 13 ≤ rm.locals) (hdg : decode cc pc = .ok (.invokestatic index, 3)) (kk : J l rm D ε ws (pc + 3) lv (.int (if y < x then y else x) :: st)) : J l rm D ε ws pc lv (.int y :: .int x :: st) := by
  obtain ⟨p, e, s, m, args, below, meth, c, Q, A, nL⟩ := ε
  obtain ⟨hx, hb, hml, hown, hts, hr, hlocks, hK, hA, hNW, hZ⟩ := E
  intro H locs ls hP hD hS hl
  exact va_mmin hx hb (hml.trans hl.1.symm) hown (hts _ hlink) (hts _ hstat) (hts _ hini) (hts _ hcode) hfr hlo (Nat.zero_le _) (Nat.zero_le _) hdg (kk H locs ls hP hD hS hl)
theorem j_max (E : En D tys ε cc own Ts ret) {index : Nat} {x y : Int32} (hlink : Cond.methodLink own index Lib.Math.max.name ∈ Ts) (hstat : Cond.static Lib.Math.max.name ∈ Ts) (hini : Cond.initialized "java/lang/Math" ∈ Ts) (hcode : Cond.code Lib.Math.max.name Lib.Math.max.code 2 (some .int) ∈ Ts) (hfr : 1 ≤ rm.frames) (hlo : (st.map fun v => v.category).sum + 13 ≤ rm.locals) (hdg : decode cc pc = .ok (.invokestatic index, 3)) (kk : J l rm D ε ws (pc + 3) lv (.int (if x < y then y else x) :: st)) : J l rm D ε ws pc lv (.int y :: .int x :: st) := by
  obtain ⟨p, e, s, m, args, below, meth, c, Q, A, nL⟩ := ε
  obtain ⟨hx, hb, hml, hown, hts, hr, hlocks, hK, hA, hNW, hZ⟩ := E
  intro H locs ls hP hD hS hl
  exact va_mmax hx hb (hml.trans hl.1.symm) hown (hts _ hlink) (hts _ hstat) (hts _ hini) (hts _ hcode) hfr hlo (Nat.zero_le _) (Nat.zero_le _) hdg (kk H locs ls hP hD hS hl)
theorem j_sws (E : En D tys ε cc own Ts ret) {index : Nat} (hlink : Cond.fieldLink own index RX0 "SETS_WITH_STATE" "[I" ∈ Ts) (j : Nat) (hj : j < 4) (hdg : decode cc pc = .ok (.getstatic index, 3)) {i : Nat} {q : Fin 4} (hdg2 : decode cc (pc + 3) = .ok (.iload_n q, 1)) (hi : (q : Nat) = i) (k : Nat) (hk : lv[k]? = some (i, .int (nI j))) (hdg3 : decode cc (pc + 3 + 1) = .ok (.iaload, 1)) (kk : J l rm D ε ws (pc + 3 + 1 + 1) lv (.int (nI (swsN j)) :: st)) : J l rm D ε ws pc lv (st) := by
  obtain ⟨p, e, s, m, args, below, meth, c, Q, A, nL⟩ := ε
  obtain ⟨hx, hb, hml, hown, hts, hr, hlocks, hK, hA, hNW, hZ⟩ := E
  intro H locs ls hP hD hS hl
  exact (by
    obtain ⟨t, hZ1, hZ2⟩ := hZ
    refine va_gets hx hb hZ1 hS hown (hts _ hlink) (fun _ h => h) hdg ?_
    refine lv_iload_n hx hb hdg2 hi (lv_at hl k hk) ?_
    refine va_ti hx hb hZ2 hS (vp_in_nI hj (by decide)) rfl hdg3 ?_
    rw [nI_clamp (by omega)]
    exact kk H locs ls hP hD hS hl)
theorem va_place2 {A0 : Nat → Prop} {cl : List vw_C} {ws ws' wc w1 : va_W} {H H1 : Heap} (hP : va_P D cl ws H) (hD : va_D A0 ws) (isC isR : List Nat) (hC : isC.map (fun i => ws[i]?) = wc.map some) (hN : isC.map (fun i => ws'[i]?) = w1.map some) (hR : isR.map (fun i => ws'[i]?) = isR.map (fun i => ws[i]?)) (hadr : ws'.map (fun q => q.1) = ws.map (fun q => q.1)) {n : Nat} (hlen : ws'.length = n) (hcov : (List.range n).all (fun i => isC.contains i || isR.contains i) = true) (hdis : isR.all (fun i => !isC.contains i) = true)
    (hk : ∀ q : Nat, q < H.size → ¬ va_A wc H.size q → H1[q]? = H[q]?) (hP1 : va_P D cl w1 H1) : va_P D cl ws' H1 ∧ va_D A0 ws' := by
  refine ⟨fun k q hq => ?_, va_D_adr hD hadr⟩
  have hkl : k < n := by rw [← hlen]; exact (List.getElem?_eq_some_iff.mp hq).1
  have hc := List.all_eq_true.mp hcov k (List.mem_range.mpr hkl)
  rw [Bool.or_eq_true, List.contains_iff_mem, List.contains_iff_mem] at hc
  by_cases hin : k ∈ isC
  · obtain ⟨j, hj, hjk⟩ := List.mem_iff_getElem.mp hin
    have h1 : (isC.map (fun i => ws'[i]?))[j]? = some (some q) := by
      rw [List.getElem?_map, List.getElem?_eq_getElem hj, hjk, Option.map_some, hq]
    rw [hN, List.getElem?_map] at h1
    cases hw : w1[j]? with
    | none => rw [hw] at h1; cases h1
    | some q2 =>
      rw [hw] at h1
      have h2 : q2 = q := Option.some.inj (Option.some.inj h1)
      rw [← h2]
      exact hP1 j q2 hw
  · have hr : k ∈ isR := hc.resolve_left hin
    obtain ⟨j, hj, hjk⟩ := List.mem_iff_getElem.mp hr
    have h1 : (isR.map (fun i => ws'[i]?))[j]? = some (some q) := by
      rw [List.getElem?_map, List.getElem?_eq_getElem hj, hjk, Option.map_some, hq]
    rw [hR, List.getElem?_map, List.getElem?_eq_getElem hj, hjk, Option.map_some] at h1
    have h2 : ws[k]? = some q := Option.some.inj h1
    have hl := (hP k q h2).lt
    refine (hP k q h2).kept (hk q.1 hl (fun h => ?_))
    rcases h with ⟨j2, e, h⟩ | h
    · have h3 : (isC.map (fun i => ws[i]?))[j2]? = some (some (q.1, e)) := by rw [hC, List.getElem?_map, h]; rfl
      rw [List.getElem?_map] at h3
      cases hi : isC[j2]? with
      | none => rw [hi] at h3; cases h3
      | some i2 =>
        rw [hi] at h3
        have h4 : ws[i2]? = some (q.1, e) := Option.some.inj h3
        have h5 := hD.1 k i2 q (q.1, e) h2 h4 rfl
        subst h5
        exact hin (List.mem_of_getElem? hi)
    · omega
theorem j_behind2 {p : Program} {e : Env} {s : State} {m : MethodId} {args : Array Value} {below : List Frame} {meth : Method} {c : Code} {Q : State → Prop} {A : Nat → Prop} {H : Heap} {locs : List Loc} {ls : Array Slot} {st0 rest : List Value} {S : Type} {psi : S → Prop} {val : S → Option Value} {wo : S → va_W} {wc ws' : va_W}
    (hr : va_Run p l e rm s m args below meth c H locs 0 0 0 0 (F0 m pc ls st0) rest (fun st oc t => (∃ u : S, oc = .returned (val u) ∧ psi u ∧ va_P D vwCl (wo u) t.heap) ∧ va_F (va_A wc H.size) st t) (va_A wc H.size))
    (hP : va_P D vwCl ws H) (hD : va_D A ws) (hS : va_S A s.heap H locs) (isC isR : List Nat) (hC : isC.map (fun i => ws[i]?) = wc.map some) (hN : ∀ u : S, isC.map (fun i => ws'[i]?) = (wo u).map some) (hR : isR.map (fun i => ws'[i]?) = isR.map (fun i => ws[i]?)) (hadr : ws'.map (fun q => q.1) = ws.map (fun q => q.1)) {n : Nat} (hlen : ws'.length = n) (hcov : (List.range n).all (fun i => isC.contains i || isR.contains i) = true) (hdis : isR.all (fun i => !isC.contains i) = true) (hF : ∀ q, va_A wc H.size q → A q)
    (kk : ∀ (u : S), psi u → ∀ (H1 : Heap) (locs1 : List Loc), va_P D vwCl ws' H1 → va_D A ws' → va_S A s.heap H1 locs1 → W p l e rm s m args below meth c H1 locs1 0 0 Q (F0 m (pc + 3) ls ((val u).toList ++ rest))) :
    W p l e rm s m args below meth c H locs 0 0 Q (F0 m pc ls st0) := by
  intro T hT X
  obtain ⟨v, st₀, t, T', L, h0, X', hL, e1, e2, ⟨⟨u, hv, hp, hb⟩, hz, hk⟩, stp⟩ := hr T hT X
  have hv2 : v = val u := by cases hv; rfl
  subst hv2
  rw [h0] at hz hk
  rw [← e1] at hz hk hb
  obtain ⟨g1, g2⟩ := va_place2 hP hD isC isR hC (hN u) hR hadr hlen hcov hdis hk hb
  obtain ⟨t2, a1, b1⟩ := kk u hp T'.heap (locs ++ L) g1 g2
    ⟨Nat.le_trans hS.1 hz, fun q h1 h2 => by rw [hk q (Nat.lt_of_lt_of_le h1 hS.1) (fun z => h2 (hF q z))]; exact hS.2.1 q h1 h2, fun q hq => by
      rcases List.mem_append.mp hq with h | h
      · exact hS.2.2 q h
      · exact hF _ (hL q h)⟩ T' rfl X'
  exact ⟨t2, stp t2 a1, b1⟩
theorem j_S2 (E : En D tys ε cc own Ts ret) {S : Type} {psi : S → Prop} {val : S → Option Value} {wo : S → va_W} {wc : va_W} {y : MethodName} {bytes : ByteArray} {maxL : Nat} {rt : Option FieldType} {w w' : List Cond} {rmc : Room} {As rest : List Value} {n index : Nat} (hM : Ct l y w rmc D tys As wc psi val wo) (hG : GoodIn Ts (va_wsS own index y w)) (hd : y.cls ≠ "java/lang/invoke/MethodHandle" ∧ y.cls ≠ "java/lang/invoke/VarHandle" ∧ (parseMethodDescriptor y.desc).map (fun d => d.parameters.length) = some n) (hw : w = Cond.code y bytes maxL rt :: w') (hrm : rmc.cells = 0 ∧ rmc.slots = 0) (hR : rmc.frames + 1 ≤ rm.frames ∧ 8 + (maxL + 11) + rmc.locals ≤ rm.locals) (hn : As.length = n) (isC : List Nat) (hC : isC.map (fun i => ws[i]?) = wc.map some) (isR : List Nat) (ws' : va_W) (hN : ∀ u : S, isC.map (fun i => ws'[i]?) = (wo u).map some) (wr : va_W) (adr : List Nat) (hR1 : isR.map (fun i => ws'[i]?) = wr.map some) (hR2 : isR.map (fun i => ws[i]?) = wr.map some) (ha1 : ws'.map (fun q => q.1) = adr) (ha2 : ws.map (fun q => q.1) = adr) {n9 : Nat} (hlen : ws'.length = n9) (hcov : (List.range n9).all (fun i => isC.contains i || isR.contains i) = true) (hdis : isR.all (fun i => !isC.contains i) = true) (hst : st = As.reverse ++ rest) (hcat : (rest.map fun v => v.category).sum ≤ 8) (hdg : decode cc pc = .ok (.invokestatic index, 3)) (kk : ∀ u : S, psi u → J l rm D ε ws' (pc + 3) lv ((val u).toList ++ rest)) (hnd : va_nd isC = true) : J l rm D ε ws pc lv st := by
  obtain ⟨p, e, s, m, args, below, meth, c, Q, A, nL⟩ := ε
  obtain ⟨hx, hb, hml, hown, hts, hr, hlocks, hK, hA, hNW, hZ⟩ := E
  intro H locs ls hP hD hS hl
  subst hst
  have hPc : va_P D vwCl wc H := hP.sub isC (by
    have h9 := congrArg (List.filterMap id) hC
    simpa [List.filterMap_map, Function.comp_def] using h9)
  have hFc := va_free (wc := wc) hD hS hA isC hC
  have hDc := va_D_cut hD isC hnd hC
  exact j_behind2 (va_runS ⟨hx, hb, hml, hown, hts⟩ (hM H.size) (va_cwS n hts hG hw hrm.1 hrm.2 hd hR) ⟨Wd.calling, fun U hU hW => ⟨rfl, Wd.at hK hNW hZ hS hPc hDc hFc U hU hW⟩⟩ rfl hn hl.1 rfl (lv_room hcat) hdg ⟨Nat.zero_le _, Nat.zero_le _⟩) hP hD hS isC isR hC hN (hR1.trans hR2.symm) (ha1.trans ha2.symm) hlen hcov hdis hFc (fun u hu H locs hP hD hS => kk u hu H locs ls hP hD hS hl)
theorem j_SN2 (E : En D tys ε cc own Ts ret) {S : Type} {psi : S → Prop} {val : S → Option Value} {wo : S → va_W} {wc : va_W} {y : MethodName} {bytes : ByteArray} {maxL : Nat} {rt : Option FieldType} {w w' : List Cond} {rmc : Room} {As rest : List Value} {n index : Nat} (hM : Ct l y w rmc D tys As wc psi val wo) (hG : GoodIn Ts w) (hd : y.cls ≠ "java/lang/invoke/MethodHandle" ∧ y.cls ≠ "java/lang/invoke/VarHandle" ∧ (parseMethodDescriptor y.desc).map (fun d => d.parameters.length) = some n) (hq : (own, index, y) ∈ nwL) (hini : Cond.initialized y.cls ∈ Ts) (hsta : Cond.static y ∈ Ts) (hw : w = Cond.code y bytes maxL rt :: w') (hrm : rmc.cells = 0 ∧ rmc.slots = 0) (hR : rmc.frames + 1 ≤ rm.frames ∧ 8 + (maxL + 11) + rmc.locals ≤ rm.locals) (hn : As.length = n) (isC : List Nat) (hC : isC.map (fun i => ws[i]?) = wc.map some) (isR : List Nat) (ws' : va_W) (hN : ∀ u : S, isC.map (fun i => ws'[i]?) = (wo u).map some) (wr : va_W) (adr : List Nat) (hR1 : isR.map (fun i => ws'[i]?) = wr.map some) (hR2 : isR.map (fun i => ws[i]?) = wr.map some) (ha1 : ws'.map (fun q => q.1) = adr) (ha2 : ws.map (fun q => q.1) = adr) {n9 : Nat} (hlen : ws'.length = n9) (hcov : (List.range n9).all (fun i => isC.contains i || isR.contains i) = true) (hdis : isR.all (fun i => !isC.contains i) = true) (hst : st = As.reverse ++ rest) (hcat : (rest.map fun v => v.category).sum ≤ 8) (hdg : decode cc pc = .ok (.invokestatic index, 3)) (kk : ∀ u : S, psi u → J l rm D ε ws' (pc + 3) lv ((val u).toList ++ rest)) (hnd : va_nd isC = true) : J l rm D ε ws pc lv st := by
  obtain ⟨p, e, s, m, args, below, meth, c, Q, A, nL⟩ := ε
  obtain ⟨hx, hb, hml, hown, hts, hr, hlocks, hK, hA, hNW, hZ⟩ := E
  intro H locs ls hP hD hS hl
  subst hst
  have hPc : va_P D vwCl wc H := hP.sub isC (by
    have h9 := congrArg (List.filterMap id) hC
    simpa [List.filterMap_map, Function.comp_def] using h9)
  have hFc := va_free (wc := wc) hD hS hA isC hC
  have hDc := va_D_cut hD isC hnd hC
  exact j_behind2 (va_runSN ⟨hx, hb, hml, hown, hts⟩ (hM H.size) ⟨va_cnB n hts hG hw hrm.1 hrm.2 (hNW _ hq) (hts _ hini) hd hR, hts _ hsta, trivial⟩ ⟨Wd.calling, fun U hU hW => ⟨rfl, Wd.at hK hNW hZ hS hPc hDc hFc U hU hW⟩⟩ rfl hn hl.1 rfl (lv_room hcat) hdg ⟨Nat.zero_le _, Nat.zero_le _⟩) hP hD hS isC isR hC hN (hR1.trans hR2.symm) (ha1.trans ha2.symm) hlen hcov hdis hFc (fun u hu H locs hP hD hS => kk u hu H locs ls hP hD hS hl)
theorem j_V2 (E : En D tys ε cc own Ts ret) {S : Type} {psi : S → Prop} {val : S → Option Value} {wo : S → va_W} {wc : va_W} {y : MethodName} {bytes : ByteArray} {maxL : Nat} {rt : Option FieldType} {w w' : List Cond} {rmc : Room} {As rest : List Value} {n index : Nat} {b : Nat} {C : String} {T : u_T} {N ci : Nat} {fs : List Value} (hM : Ct l y w rmc D tys (.ref b :: As) wc psi val wo) (hG : GoodIn Ts (wsV own index C y w)) (hd : y.cls = C ∧ y.cls ≠ "java/lang/invoke/MethodHandle" ∧ y.cls ≠ "java/lang/invoke/VarHandle" ∧ (parseMethodDescriptor y.desc).map (fun d => d.parameters.length) = some n) (hw : w = Cond.code y bytes maxL rt :: w') (hrm : rmc.cells = 0 ∧ rmc.slots = 0) (hR : rmc.frames + 1 ≤ rm.frames ∧ 8 + (maxL + 11) + rmc.locals ≤ rm.locals) (hn : As.length = n) (isC : List Nat) (hC : isC.map (fun i => ws[i]?) = wc.map some) (isR : List Nat) (ws' : va_W) (hN : ∀ u : S, isC.map (fun i => ws'[i]?) = (wo u).map some) (wr : va_W) (adr : List Nat) (hR1 : isR.map (fun i => ws'[i]?) = wr.map some) (hR2 : isR.map (fun i => ws[i]?) = wr.map some) (ha1 : ws'.map (fun q => q.1) = adr) (ha2 : ws.map (fun q => q.1) = adr) {n9 : Nat} (hlen : ws'.length = n9) (hcov : (List.range n9).all (fun i => isC.contains i || isR.contains i) = true) (hdis : isR.all (fun i => !isC.contains i) = true) (rq : Nat) (hrq : wc[rq]? = some (b, .inr (ci, fs))) (hrc : vwCl[ci]? = some (C, T, N)) (hst : st = As.reverse ++ .ref b :: rest) (hcat : (rest.map fun v => v.category).sum ≤ 8) (hdg : decode cc pc = .ok (.invokevirtual index, 3)) (kk : ∀ u : S, psi u → J l rm D ε ws' (pc + 3) lv ((val u).toList ++ rest)) (hnd : va_nd isC = true) : J l rm D ε ws pc lv st := by
  obtain ⟨p, e, s, m, args, below, meth, c, Q, A, nL⟩ := ε
  obtain ⟨hx, hb, hml, hown, hts, hr, hlocks, hK, hA, hNW, hZ⟩ := E
  intro H locs ls hP hD hS hl
  subst hst
  have hPc : va_P D vwCl wc H := hP.sub isC (by
    have h9 := congrArg (List.filterMap id) hC
    simpa [List.filterMap_map, Function.comp_def] using h9)
  have hFc := va_free (wc := wc) hD hS hA isC hC
  have hDc := va_D_cut hD isC hnd hC
  exact j_behind2 (va_runV ⟨hx, hb, hml, hown, hts⟩ (hM H.size) (cwV n hts hG hw hrm.1 hrm.2 hd hR) ⟨Wd.calling, va_recv (q := (C, T, N)) hK hPc hrc hrq, fun U hU hW => ⟨rfl, Wd.at hK hNW hZ hS hPc hDc hFc U hU hW⟩⟩ rfl hn hl.1 rfl (lv_room hcat) hdg ⟨Nat.zero_le _, Nat.zero_le _⟩) hP hD hS isC isR hC hN (hR1.trans hR2.symm) (ha1.trans ha2.symm) hlen hcov hdis hFc (fun u hu H locs hP hD hS => kk u hu H locs ls hP hD hS hl)
end J2
section N2
def updN (F : Nat → Nat) (k c : Nat) : Nat → Nat := fun j => if j = k then c else F j
theorem upd_N (F : Nat → Nat) (k c : Nat) : upd (fun i => nI (F i)) k (nI c) = fun i => nI (updN F k c i) := by
  funext j
  unfold upd updN
  by_cases h : j = k
  · subst h; simp
  · simp [h]
theorem upd_lt {F : Nat → Nat} {k c B : Nat} (hF : ∀ i, F i < B) (hc : c < B) (i : Nat) : updN F k c i < B := by
  unfold updN
  by_cases h : i = k
  · rw [if_pos h]; exact hc
  · rw [if_neg h]; exact hF i
theorem updN_s (F : Nat → Nat) (k c : Nat) : updN F k c k = c := if_pos rfl
theorem updN_n (F : Nat → Nat) (k c : Nat) {j : Nat} (h : j ≠ k) : updN F k c j = F j := if_neg h
def cpyN (F G : Nat → Nat) (n : Nat) : Nat → Nat := fun i => if i < n then F i else G i
theorem cpy_N (F G : Nat → Nat) (n : Nat) (z : Int32) (hz : z.toNatClampNeg = n) (z0 z1 : Int32) (h0 : z0.toNatClampNeg = 0) (h1 : z1.toNatClampNeg = 0) : va_cpy (fun i => nI (F i)) (fun i => nI (G i)) z0.toNatClampNeg z1.toNatClampNeg z.toNatClampNeg = fun i => nI (cpyN F G n i) := by
  funext j
  rw [hz, h0, h1]
  unfold va_cpy cpyN
  by_cases h : j < n
  · simp [h]
  · simp [h]
theorem cpy_lt {F G : Nat → Nat} {n B : Nat} (hF : ∀ i, F i < B) (hG : ∀ i, G i < B) (i : Nat) : cpyN F G n i < B := by
  unfold cpyN
  by_cases h : i < n
  · rw [if_pos h]; exact hF i
  · rw [if_neg h]; exact hG i
/-- x is a number below n -/
def inR (x : Int32) (n : Nat) : Bool := decide (0 ≤ x.toInt ∧ x.toInt < n)
theorem inR_neg {x : Int32} {n : Nat} (h : x < 0) : inR x n = false := by
  have h1 := Int32.lt_iff_toInt_lt.mp h
  have h2 : (0 : Int32).toInt = 0 := rfl
  unfold inR
  rw [decide_eq_false_iff_not]
  omega
theorem inR_ge {x : Int32} {n : Nat} (hn : n < 2 ^ 31) (h : nI n ≤ x) : inR x n = false := by
  have h1 := Int32.le_iff_toInt_le.mp h
  have h2 := nI_toInt hn
  unfold inR
  rw [decide_eq_false_iff_not]
  omega
theorem inR_ok {x : Int32} {n : Nat} (hn : n < 2 ^ 31) (h0 : ¬ x < 0) (h : ¬ nI n ≤ x) : inR x n = true := by
  have h1 : ¬ x.toInt < (0 : Int32).toInt := fun z => h0 (Int32.lt_iff_toInt_lt.mpr z)
  have h3 : ¬ (nI n).toInt ≤ x.toInt := fun z => h (Int32.le_iff_toInt_le.mpr z)
  have h2 := nI_toInt hn
  have h4 : (0 : Int32).toInt = 0 := rfl
  unfold inR
  rw [decide_eq_true_eq]
  omega
theorem inR_ex {x : Int32} {n : Nat} (hn : n < 2 ^ 31) (h : inR x n = true) : ∃ j : Nat, j < n ∧ x = nI j := by
  unfold inR at h
  rw [decide_eq_true_eq] at h
  obtain ⟨j, h1, h2⟩ := nI_of (x := x) (fun z => by
    have h1 := Int32.lt_iff_toInt_lt.mp z
    have h4 : (0 : Int32).toInt = 0 := rfl
    omega)
  refine ⟨j, ?_, h2⟩
  have h3 := nI_toInt h1
  rw [h2, h3] at h
  omega
theorem inR_nI {j n : Nat} (hj : j < n) (hn : n < 2 ^ 31) : inR (nI j) n = true := by
  have h3 := nI_toInt (n := j) (by omega)
  unfold inR
  rw [decide_eq_true_eq, h3]
  omega
theorem b2d_0 {p : Prop} [Decidable p] (h : b2n (decide p) = 0) : ¬ p := by
  intro hp
  rw [decide_eq_true hp] at h
  exact absurd h (by decide)
theorem b2d_1 {p : Prop} [Decidable p] (h : b2n (decide p) ≠ 0) : p := by
  by_cases hp : p
  · exact hp
  · rw [decide_eq_false hp] at h
    exact absurd rfl h
theorem b2n_t {b : Bool} (h : b = true) : b2n b = 1 := by rw [h]; rfl
theorem b2n_f {b : Bool} (h : b = false) : b2n b = 0 := by rw [h]; rfl
theorem b2n_ne0 {b : Bool} (h : b2n b ≠ 0) : b = true := by cases b; exact absurd rfl h; rfl
theorem b2n_0 {b : Bool} (h : b2n b = 0) : b = false := by cases b; rfl; exact absurd h (by decide)
end N2
