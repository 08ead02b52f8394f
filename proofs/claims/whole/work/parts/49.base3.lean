section J3
variable {l : Launch} {rm : Room} {D : va_G} {tys : List (ClassId × FieldType)} {ε : EnvT} {cc : ByteArray} {own : String} {Ts : List Cond} {ret : Option FieldType} {ws : va_W} {pc : Nat} {lv : List (Nat × Value)} {st : List Value}
theorem j_behind3 {p : Program} {e : Env} {s : State} {m : MethodId} {args : Array Value} {below : List Frame} {meth : Method} {c : Code} {Q : State → Prop} {A : Nat → Prop} {H : Heap} {locs : List Loc} {ls : Array Slot} {st0 rest : List Value} {S : Type} {psi : S → Prop} {val : S → Option Value} {wo : S → va_W} {wc : va_W} {ws' : S → va_W}
    (hr : va_Run p l e rm s m args below meth c H locs 0 0 0 0 (F0 m pc ls st0) rest (fun st oc t => (∃ u : S, oc = .returned (val u) ∧ psi u ∧ va_P D vwCl (wo u) t.heap) ∧ va_F (va_A wc H.size) st t) (va_A wc H.size))
    (hP : va_P D vwCl ws H) (hD : va_D A ws) (hS : va_S A s.heap H locs) (isC isR : List Nat) (hC : isC.map (fun i => ws[i]?) = wc.map some) (hN : ∀ u : S, isC.map (fun i => (ws' u)[i]?) = (wo u).map some) (hR : ∀ u : S, isR.map (fun i => (ws' u)[i]?) = isR.map (fun i => ws[i]?)) (hadr : ∀ u : S, (ws' u).map (fun q => q.1) = ws.map (fun q => q.1)) {n : Nat} (hlen : ∀ u : S, (ws' u).length = n) (hcov : (List.range n).all (fun i => isC.contains i || isR.contains i) = true) (hdis : isR.all (fun i => !isC.contains i) = true) (hF : ∀ q, va_A wc H.size q → A q)
    (kk : ∀ (u : S), psi u → ∀ (H1 : Heap) (locs1 : List Loc), va_P D vwCl (ws' u) H1 → va_D A (ws' u) → va_S A s.heap H1 locs1 → W p l e rm s m args below meth c H1 locs1 0 0 Q (F0 m (pc + 3) ls ((val u).toList ++ rest))) :
    W p l e rm s m args below meth c H locs 0 0 Q (F0 m pc ls st0) := by
  intro T hT X
  obtain ⟨v, st₀, t, T', L, h0, X', hL, e1, e2, ⟨⟨u, hv, hp, hb⟩, hz, hk⟩, stp⟩ := hr T hT X
  have hv2 : v = val u := by cases hv; rfl
  subst hv2
  rw [h0] at hz hk
  rw [← e1] at hz hk hb
  obtain ⟨g1, g2⟩ := va_place2 hP hD isC isR hC (hN u) (hR u) (hadr u) (hlen u) hcov hdis hk hb
  obtain ⟨t2, a1, b1⟩ := kk u hp T'.heap (locs ++ L) g1 g2
    ⟨Nat.le_trans hS.1 hz, fun q h1 h2 => by rw [hk q (Nat.lt_of_lt_of_le h1 hS.1) (fun z => h2 (hF q z))]; exact hS.2.1 q h1 h2, fun q hq => by
      rcases List.mem_append.mp hq with h | h
      · exact hS.2.2 q h
      · exact hF _ (hL q h)⟩ T' rfl X'
  exact ⟨t2, stp t2 a1, b1⟩
theorem j_S3 (E : En D tys ε cc own Ts ret) {S : Type} {psi : S → Prop} {val : S → Option Value} {wo : S → va_W} {wc : va_W} {y : MethodName} {bytes : ByteArray} {maxL : Nat} {rt : Option FieldType} {w w' : List Cond} {rmc : Room} {As rest : List Value} {n index : Nat} (hM : Ct l y w rmc D tys As wc psi val wo) (hG : GoodIn Ts (va_wsS own index y w)) (hd : y.cls ≠ "java/lang/invoke/MethodHandle" ∧ y.cls ≠ "java/lang/invoke/VarHandle" ∧ (parseMethodDescriptor y.desc).map (fun d => d.parameters.length) = some n) (hw : w = Cond.code y bytes maxL rt :: w') (hrm : rmc.cells = 0 ∧ rmc.slots = 0) (hR : rmc.frames + 1 ≤ rm.frames ∧ 8 + (maxL + 11) + rmc.locals ≤ rm.locals) (hn : As.length = n) (isC : List Nat) (hC : isC.map (fun i => ws[i]?) = wc.map some) (isR : List Nat) (ws' : S → va_W) (hN : ∀ u : S, isC.map (fun i => (ws' u)[i]?) = (wo u).map some) (wr : va_W) (adr : List Nat) (hR1 : ∀ u : S, isR.map (fun i => (ws' u)[i]?) = wr.map some) (hR2 : isR.map (fun i => ws[i]?) = wr.map some) (ha1 : ∀ u : S, (ws' u).map (fun q => q.1) = adr) (ha2 : ws.map (fun q => q.1) = adr) {n9 : Nat} (hlen : ∀ u : S, (ws' u).length = n9) (hcov : (List.range n9).all (fun i => isC.contains i || isR.contains i) = true) (hdis : isR.all (fun i => !isC.contains i) = true) (hst : st = As.reverse ++ rest) (hcat : (rest.map fun v => v.category).sum ≤ 8) (hdg : decode cc pc = .ok (.invokestatic index, 3)) (kk : ∀ u : S, psi u → J l rm D ε (ws' u) (pc + 3) lv ((val u).toList ++ rest)) (hnd : va_nd isC = true) : J l rm D ε ws pc lv st := by
  obtain ⟨p, e, s, m, args, below, meth, c, Q, A, nL⟩ := ε
  obtain ⟨hx, hb, hml, hown, hts, hr, hlocks, hK, hA, hNW, hZ⟩ := E
  intro H locs ls hP hD hS hl
  subst hst
  have hPc : va_P D vwCl wc H := hP.sub isC (by
    have h9 := congrArg (List.filterMap id) hC
    simpa [List.filterMap_map, Function.comp_def] using h9)
  have hFc := va_free (wc := wc) hD hS hA isC hC
  have hDc := va_D_cut hD isC hnd hC
  exact j_behind3 (va_runS ⟨hx, hb, hml, hown, hts⟩ (hM H.size) (va_cwS n hts hG hw hrm.1 hrm.2 hd hR) ⟨Wd.calling, fun U hU hW => ⟨rfl, Wd.at hK hNW hZ hS hPc hDc hFc U hU hW⟩⟩ rfl hn hl.1 rfl (lv_room hcat) hdg ⟨Nat.zero_le _, Nat.zero_le _⟩) hP hD hS isC isR hC hN (fun u => (hR1 u).trans hR2.symm) (fun u => (ha1 u).trans ha2.symm) hlen hcov hdis hFc (fun u hu H locs hP hD hS => kk u hu H locs ls hP hD hS hl)
theorem j_V3 (E : En D tys ε cc own Ts ret) {S : Type} {psi : S → Prop} {val : S → Option Value} {wo : S → va_W} {wc : va_W} {y : MethodName} {bytes : ByteArray} {maxL : Nat} {rt : Option FieldType} {w w' : List Cond} {rmc : Room} {As rest : List Value} {n index : Nat} {b : Nat} {C : String} {T : u_T} {N ci : Nat} {fs : List Value} (hM : Ct l y w rmc D tys (.ref b :: As) wc psi val wo) (hG : GoodIn Ts (wsV own index C y w)) (hd : y.cls = C ∧ y.cls ≠ "java/lang/invoke/MethodHandle" ∧ y.cls ≠ "java/lang/invoke/VarHandle" ∧ (parseMethodDescriptor y.desc).map (fun d => d.parameters.length) = some n) (hw : w = Cond.code y bytes maxL rt :: w') (hrm : rmc.cells = 0 ∧ rmc.slots = 0) (hR : rmc.frames + 1 ≤ rm.frames ∧ 8 + (maxL + 11) + rmc.locals ≤ rm.locals) (hn : As.length = n) (isC : List Nat) (hC : isC.map (fun i => ws[i]?) = wc.map some) (isR : List Nat) (ws' : S → va_W) (hN : ∀ u : S, isC.map (fun i => (ws' u)[i]?) = (wo u).map some) (wr : va_W) (adr : List Nat) (hR1 : ∀ u : S, isR.map (fun i => (ws' u)[i]?) = wr.map some) (hR2 : isR.map (fun i => ws[i]?) = wr.map some) (ha1 : ∀ u : S, (ws' u).map (fun q => q.1) = adr) (ha2 : ws.map (fun q => q.1) = adr) {n9 : Nat} (hlen : ∀ u : S, (ws' u).length = n9) (hcov : (List.range n9).all (fun i => isC.contains i || isR.contains i) = true) (hdis : isR.all (fun i => !isC.contains i) = true) (rq : Nat) (hrq : wc[rq]? = some (b, .inr (ci, fs))) (hrc : vwCl[ci]? = some (C, T, N)) (hst : st = As.reverse ++ .ref b :: rest) (hcat : (rest.map fun v => v.category).sum ≤ 8) (hdg : decode cc pc = .ok (.invokevirtual index, 3)) (kk : ∀ u : S, psi u → J l rm D ε (ws' u) (pc + 3) lv ((val u).toList ++ rest)) (hnd : va_nd isC = true) : J l rm D ε ws pc lv st := by
  obtain ⟨p, e, s, m, args, below, meth, c, Q, A, nL⟩ := ε
  obtain ⟨hx, hb, hml, hown, hts, hr, hlocks, hK, hA, hNW, hZ⟩ := E
  intro H locs ls hP hD hS hl
  subst hst
  have hPc : va_P D vwCl wc H := hP.sub isC (by
    have h9 := congrArg (List.filterMap id) hC
    simpa [List.filterMap_map, Function.comp_def] using h9)
  have hFc := va_free (wc := wc) hD hS hA isC hC
  have hDc := va_D_cut hD isC hnd hC
  exact j_behind3 (va_runV ⟨hx, hb, hml, hown, hts⟩ (hM H.size) (cwV n hts hG hw hrm.1 hrm.2 hd hR) ⟨Wd.calling, va_recv (q := (C, T, N)) hK hPc hrc hrq, fun U hU hW => ⟨rfl, Wd.at hK hNW hZ hS hPc hDc hFc U hU hW⟩⟩ rfl hn hl.1 rfl (lv_room hcat) hdg ⟨Nat.zero_le _, Nat.zero_le _⟩) hP hD hS isC isR hC hN (fun u => (hR1 u).trans hR2.symm) (fun u => (ha1 u).trans ha2.symm) hlen hcov hdis hFc (fun u hu H locs hP hD hS => kk u hu H locs ls hP hD hS hl)
end J3
