section Law2
def x00 : XSt := (ixT 61, 0, rsG (dG (rd (ixT 61) 61 gZ.2.2.2.2.2.1).2) gZ, (dG (rd (ixT 61) 61 gZ.2.2.2.2.2.1).2), 0, 0, (fun _ => gZ), (fun _ => 0), (fun _ => 0), 0, 1, (fun _ => 0), (fun _ => 0), 0, 1, (fun _ => lN 0), (fun _ => lN 0))
def m00 : MSt := (mF0, kZ, (fun _ => 0), (fun _ => 0), (fun _ => 0), (fun _ => 0), (fun _ => 0), (fun _ => 0), (fun _ => 0), (fun _ => 1), (fun _ => nI 0), (fun _ => lN 0), (fun _ => lN 0), 0, 0, 0, 0)
theorem e00 : eOk (updN (updN (updN (updN E0 0 3) 1 2) 2 2) 3 4) := ⟨updN_b (updN_b (updN_b (updN_b E0_ok.1 (by decide)) (by decide)) (by decide)) (by decide), by decide, by decide, by decide, by decide, by decide, un_99 (by decide) (un_99 (by decide) (un_99 (by decide) (un_99 (by decide) E0_ok.2.2.2.2.2.2)))⟩
theorem mF0_b : ∀ i, mF0 i < 65536 := by
  have h1 := ru_ok (a := 0) (b := 0) (c := 1) (u := 1) (v := 2) e00 (by decide) (by decide) (by decide) (by decide) (by decide) (by decide)
  have h2 := ru_ok (a := 0) (b := 1) (c := 0) (u := 0) (v := 0) h1 (by decide) (by decide) (by decide) (by decide) (by decide) (by decide)
  have h3 := ru_ok (a := 1) (b := 0) (c := 0) (u := 0) (v := 0) h2 (by decide) (by decide) (by decide) (by decide) (by decide) (by decide)
  have h4 := ru_ok (a := 1) (b := 0) (c := 1) (u := 2) (v := 0) h3 (by decide) (by decide) (by decide) (by decide) (by decide) (by decide)
  have h5 := ru_ok (a := 1) (b := 1) (c := 2) (u := 0) (v := 0) h4 (by decide) (by decide) (by decide) (by decide) (by decide) (by decide)
  have h6 := ru_ok (a := 1) (b := 1) (c := 0) (u := 2) (v := 0) h5 (by decide) (by decide) (by decide) (by decide) (by decide) (by decide)
  exact updN_b h6.1 (by decide)
set_option maxRecDepth 100000 in
theorem ra_00 : (raM (ixT 61) 61 62 E0 0).1 = none := by decide +kernel
set_option maxRecDepth 100000 in
theorem ra_F : ∀ i, i < 99 → mF0 i = updN (cpyN (raM (ixT 61) 61 62 E0 0).2 E0 99) 86 1 i := by decide +kernel
theorem g00 : gR (rsG (dG (rd (ixT 61) 61 gZ.2.2.2.2.2.1).2) gZ) mF0 := by
  obtain ⟨h1, h2⟩ := rd_eq (ft := ixT 61) (T := ixT 61) (le := 61) (Fd := gZ.2.2.2.2.2.1) (fun _ _ => rfl) (fun _ => Nat.le_of_ble_eq_true rfl)
  have h3 := h2 (h1.trans ra_00)
  have hd := rd_ok (T := ixT 61) (le := 61) (F := gZ.2.2.2.2.2.1) (fun _ => Nat.le_of_ble_eq_true rfl)
  exact gR_congr (gR_conf (g := gZ) (F := E0) h3 (by decide) E0_ok.1) (gOk_rs (dG_ok hd) gZ_ok).2.2.2.2.1 (gOk_rs (dG_ok hd) gZ_ok).2.2.2.2.2.2.2.2 ra_F mF0_b
theorem inv00 : Inv x00 m00 := by
  have hd := rd_ok (T := ixT 61) (le := 61) (F := gZ.2.2.2.2.2.1) (fun _ => Nat.le_of_ble_eq_true rfl)
  have hz : ∀ i : Nat, (fun _ : Nat => 0) i < 65536 := fun _ => Nat.le_of_ble_eq_true rfl
  exact ⟨⟨ixT_lt 61, Nat.zero_le _, gOk_rs (dG_ok hd) gZ_ok, dG_ok hd, Nat.le_of_ble_eq_true rfl, Nat.zero_le _, fun _ => gZ_ok, hz, hz, Nat.le_of_ble_eq_true rfl, hz, hz, Nat.le_of_ble_eq_true rfl⟩, g00, ⟨rfl, fun i => by show kZ i < 65536; unfold kZ; split <;> decide, fun j hj => absurd hj (Nat.not_lt_zero _)⟩, ⟨⟨rfl, hz⟩, fun i hi => absurd hi (Nat.not_lt_zero _)⟩, fun h => absurd h Nat.one_ne_zero, hz, hz, hz, fun _ _ => rfl⟩
variable {l : Launch} {D : va_G} {cI cC cJ cG : ClassId} {ε : EnvT} {b L : Nat} {xs : Nat → Int32} {H hk hr h : Nat → Nat} {x : XSt} {m : MSt} {k9 n9 : Nat} {rm : Room} {ws : va_W} {pc : Nat} {lv : List (Nat × Value)} {st : List Value} {own : String} {Ts : List Cond} {cc : ByteArray} {tys : List (ClassId × FieldType)}
def FinL (ε : EnvT) (b : Nat) : Prop :=
  match ε with
  | (_, _, s, _, args, below, _, _, Q, A, _) => args = #[Value.ref b] ∧ Q = lw_Z below #[Value.ref b] s ∧ A = fun q => s.heap.size ≤ q
theorem jk_end (E : En D tys ε code own Ts ret) (FE : FinL ε b) (hk : k9 ≤ 600000) (hn : n9 ≤ 7302250) (hdg : decode code pc = .ok (.ireturn, 1)) : JK l room_1 D ε k9 n9 ws pc lv [.int 1] := by
  obtain ⟨p, e, s, m9, args, below, meth, c, Q, A, nL⟩ := ε
  obtain ⟨hx, hb, hml, hown, hts, hr, hlocks, hK, hA, hNW, hZ⟩ := E
  intro H9 locs ls hP hD hS hl
  obtain ⟨f1, f2, f3⟩ := FE
  subst f1
  subst f2
  subst f3
  exact va_forget hS.2.2 (W.widen hk hn (lw_ret hx hb hr hlocks hdg))
theorem le_6 {i L : Nat} (hi : i < 2 ^ 30) (hL : L < 2 ^ 30) : nI L - nI 6 < nI i ↔ L < i + 6 := by
  rw [Int32.lt_iff_toInt_lt, pk_sub_toInt hL (by decide), nI_toInt (by omega)]
  omega
set_option maxRecDepth 100000 in
set_option maxHeartbeats 4000000 in
theorem law_loop (EE : En D [(cI, .int), (cC, .char), (cJ, .long), (cG, .object "PushdownGameSolver$Game")] ε cL_law RL wsL_law ret) (SC : ScE ε b L xs) (FE : FinL ε b) (hn4 : ε.2.2.2.2.2.2.2.2.2.2 = 4) (hL : L ≤ 3072) : ∀ (nf i : Nat) (x : XSt) (m : MSt), L - i < nf → i ≤ 4000 → Inv x m → JK l room_1 D ε 44 1825 (wX cI cC cJ cG H hk hr x ++ wM cI cC cJ cG h m) 18 [(3, .int (nI i)), (2, .ref (h 0)), (1, .ref (H 0)), (0, .ref b)] [] := by
  intro nf
  induction nf with
  | zero => intro i x m hm; exact absurd hm (Nat.not_lt_zero _)
  | succ nf ih =>
    intro i x m hm hi4 hI
    have kk : i + 6 ≤ L → ∀ (x : XSt) (m : MSt), Inv x m → JK l room_1 D ε 44 1825 (wX cI cC cJ cG H hk hr x ++ wM cI cC cJ cG h m) 866 [(3, .int (nI i)), (2, .ref (h 0)), (1, .ref (H 0)), (0, .ref b)] [] := by
      intro hi6 x m hI
      refine jk_iinc (v := nI (i + 6)) EE 0 [(3, .int (nI (i + 6))), (2, _), (1, _), (0, _)] dL_law_866 rfl (nI_add i 6) (Nat.lt_of_lt_of_eq (by decide) hn4.symm) rfl ?_
      refine jk_goto EE 18 dL_law_869 (by decide) ?_
      exact ih (i + 6) x m (by omega) (by omega) hI
    refine jk_iload_n EE 0 dL_law_18 rfl rfl ?_
    refine jk_aload_n EE 3 dL_law_19 rfl rfl ?_
    refine jk_slen EE SC dL_law_20 ?_
    refine jk_bipush (v := nI 6) EE dL_law_21 (by decide) ?_
    refine jk_isub EE dL_law_23 ?_
    refine jk_icmp_gt EE 872 dL_law_24 (by decide) (fun c24 => ?_) (fun c24 => ?_)
    · refine jk_iconst (v := 1) EE dL_law_872 (by decide) ?_
      exact jk_end EE FE (by decide) (by decide) dL_law_873
    · have hi6 : i + 6 ≤ L := by
        rcases Nat.lt_or_ge L (i + 6) with h9 | h9
        · exact absurd ((le_6 (by omega) (by omega)).mpr h9) c24
        · exact h9
      refine jk_aload_n EE 3 dL_law_27 rfl rfl ?_
      refine jk_iload_n EE 0 dL_law_28 rfl rfl ?_
      refine jk_sld EE SC (by omega) (j := i) (by omega) dL_law_29 ?_
      refine jk_bipush (v := nI 31) EE dL_law_30 (by decide) ?_
      refine jk_iand EE dL_law_32 ?_
      obtain ⟨k, hk32, hk9⟩ := pk_andE (xs i) (m := nI 31) 5 (by decide)
      refine jk_topE (y := nI k) hk9 ?_
      match k, hk32 with
      | 0, _ => exact jk_tabIn EE 172 dL_law_33 (by decide) (by decide) (by decide) rfl (by decide) (lc_append EE SC hL hi6 hI (kk hi6))
      | 1, _ => exact jk_tabIn EE 195 dL_law_33 (by decide) (by decide) (by decide) rfl (by decide) (lc_clearText EE SC hL hi6 hI (kk hi6))
      | 2, _ => exact jk_tabIn EE 208 dL_law_33 (by decide) (by decide) (by decide) rfl (by decide) (lc_firstError EE SC hL hi6 hI (kk hi6))
      | 3, _ => exact jk_tabIn EE 221 dL_law_33 (by decide) (by decide) (by decide) rfl (by decide) (lc_configure EE SC hL hi6 hI (kk hi6))
      | 4, _ => exact jk_tabIn EE 234 dL_law_33 (by decide) (by decide) (by decide) rfl (by decide) (lc_addRule EE SC hL hi6 hI (kk hi6))
      | 5, _ => exact jk_tabIn EE 297 dL_law_33 (by decide) (by decide) (by decide) rfl (by decide) (lc_removeRule EE SC hL hi6 hI (kk hi6))
      | 6, _ => exact jk_tabIn EE 320 dL_law_33 (by decide) (by decide) (by decide) rfl (by decide) (lc_setOwner EE SC hL hi6 hI (kk hi6))
      | 7, _ => exact jk_tabIn EE 353 dL_law_33 (by decide) (by decide) (by decide) rfl (by decide) (lc_setTarget EE SC hL hi6 hI (kk hi6))
      | 8, _ => exact jk_tabIn EE 386 dL_law_33 (by decide) (by decide) (by decide) rfl (by decide) (lc_place EE SC hL hi6 hI (kk hi6))
      | 9, _ => exact jk_tabIn EE 409 dL_law_33 (by decide) (by decide) (by decide) rfl (by decide) (lc_push EE SC hL hi6 hI (kk hi6))
      | 10, _ => exact jk_tabIn EE 432 dL_law_33 (by decide) (by decide) (by decide) rfl (by decide) (lc_play EE SC hL hi6 hI (kk hi6))
      | 11, _ => exact jk_tabIn EE 455 dL_law_33 (by decide) (by decide) (by decide) rfl (by decide) (lc_undo EE SC hL hi6 hI (kk hi6))
      | 12, _ => exact jk_tabIn EE 468 dL_law_33 (by decide) (by decide) (by decide) rfl (by decide) (lc_ruleCount EE SC hL hi6 hI (kk hi6))
      | 13, _ => exact jk_tabIn EE 481 dL_law_33 (by decide) (by decide) (by decide) rfl (by decide) (lc_ruleState EE SC hL hi6 hI (kk hi6))
      | 14, _ => exact jk_tabIn EE 504 dL_law_33 (by decide) (by decide) (by decide) rfl (by decide) (lc_ruleTop EE SC hL hi6 hI (kk hi6))
      | 15, _ => exact jk_tabIn EE 527 dL_law_33 (by decide) (by decide) (by decide) rfl (by decide) (lc_ruleNext EE SC hL hi6 hI (kk hi6))
      | 16, _ => exact jk_tabIn EE 550 dL_law_33 (by decide) (by decide) (by decide) rfl (by decide) (lc_ruleSymbol EE SC hL hi6 hI (kk hi6))
      | 17, _ => exact jk_tabIn EE 583 dL_law_33 (by decide) (by decide) (by decide) rfl (by decide) (lc_ownerOf EE SC hL hi6 hI (kk hi6))
      | 18, _ => exact jk_tabIn EE 606 dL_law_33 (by decide) (by decide) (by decide) rfl (by decide) (lc_isTarget EE SC hL hi6 hI (kk hi6))
      | 19, _ => exact jk_tabIn EE 629 dL_law_33 (by decide) (by decide) (by decide) rfl (by decide) (lc_presentState EE SC hL hi6 hI (kk hi6))
      | 20, _ => exact jk_tabIn EE 642 dL_law_33 (by decide) (by decide) (by decide) rfl (by decide) (lc_stackSize EE SC hL hi6 hI (kk hi6))
      | 21, _ => exact jk_tabIn EE 655 dL_law_33 (by decide) (by decide) (by decide) rfl (by decide) (lc_stackSymbol EE SC hL hi6 hI (kk hi6))
      | 22, _ => exact jk_tabIn EE 678 dL_law_33 (by decide) (by decide) (by decide) rfl (by decide) (lc_playableRules EE SC hL hi6 hI (kk hi6))
      | 23, _ => exact jk_tabIn EE 691 dL_law_33 (by decide) (by decide) (by decide) rfl (by decide) (lc_winner EE SC hL hi6 hI (kk hi6))
      | 24, _ => exact jk_tabIn EE 704 dL_law_33 (by decide) (by decide) (by decide) rfl (by decide) (lc_winningRound EE SC hL hi6 hI (kk hi6))
      | 25, _ => exact jk_tabIn EE 717 dL_law_33 (by decide) (by decide) (by decide) rfl (by decide) (lc_distance EE SC hL hi6 hI (kk hi6))
      | 26, _ => exact jk_tabIn EE 730 dL_law_33 (by decide) (by decide) (by decide) rfl (by decide) (lc_bestRule EE SC hL hi6 hI (kk hi6))
      | 27, _ => exact jk_tabIn EE 743 dL_law_33 (by decide) (by decide) (by decide) rfl (by decide) (lc_rounds EE SC hL hi6 hI (kk hi6))
      | 28, _ => exact jk_tabIn EE 756 dL_law_33 (by decide) (by decide) (by decide) rfl (by decide) (lc_forcingSetCount EE SC hL hi6 hI (kk hi6))
      | 29, _ => exact jk_tabIn EE 789 dL_law_33 (by decide) (by decide) (by decide) rfl (by decide) (lc_forcingSet EE SC hL hi6 hI (kk hi6))
      | 30, _ => exact jk_tabIn EE 832 dL_law_33 (by decide) (by decide) (by decide) rfl (by decide) (lc_winningStacks EE SC hL hi6 hI (kk hi6))
      | 31, _ => exact jk_tabOut EE 866 dL_law_33 (by decide) (Or.inr (by decide)) (by decide) (kk hi6 x m hI)
      | k + 32, h9 => exact absurd h9 (by omega)
section RulesIX
variable {l : Launch} {rm : Room} {D : va_G} {tys : List (ClassId × FieldType)} {ε : EnvT} {cc : ByteArray} {own : String} {Ts : List Cond} {re : Option FieldType} {kC nS : Nat} {ws : va_W} {pc : Nat} {lv : List (Nat × Value)} {st : List Value}
theorem XT_m (ak av : Nat) (v9 : Value) : ∀ A u U H, u.vm = U.vm → XT ak av v9 A u H → XT ak av v9 A U H := fun A u U H hv h => ⟨h.1.moved (hv ▸ Vm.Alike.refl u.vm), h.2.1.same hv.symm, h.2.2.1.moved (hv ▸ Vm.Alike.refl u.vm), h.2.2.2.1.moved (hv ▸ Vm.Alike.refl u.vm), va_AO.moved (hv ▸ Vm.Alike.refl u.vm) h.2.2.2.2⟩
theorem WdX.callingE {ws0 : va_W} {sz : Nat} {av : List Value} {X : (Nat → Prop) → State → Heap → Prop} (hX : ∀ A u U H, u.vm = U.vm → X A u H → X A U H) : FrameBlind (va_Pc av (fun U => Wd D tys ws0 sz U ∧ X (va_A ws0 sz) U U.heap)) := by
  intro a U g mk h
  obtain ⟨q0, ⟨q1, qP, qK, qD, qN, qZ⟩, qX⟩ := h
  exact ⟨q0, ⟨q1, qP, va_K.moved (u := U) (U := U.calling g mk a) (Vm.Alike.refl U.vm) qK, qD, NW.same (s := U) rfl qN, ZT.moved (u := U) (U := U.calling g mk a) (Vm.Alike.refl U.vm) qZ⟩, hX _ U (U.calling g mk a) _ rfl qX⟩
theorem jk_IX (E : En D tys ε cc own Ts re) {S : Type} {psi : S → Prop} {val : S → Option Value} {wo : S → va_W} {wc : va_W} {y : MethodName} {bytes : ByteArray} {maxL : Nat} {w w' : List Cond} {rmc : Room} {X X2 : (Nat → Prop) → State → Heap → Prop} {nm : String} (XX : XE ε X2 nm) (hXm : ∀ A u U H, u.vm = U.vm → X A u H → X A U H) (hXc : ∀ (A B : Nat → Prop) s U (H H1 : Heap), s.WarmedH U.vm → (∀ a : Nat, a < H.size → ¬ A a → H1[a]? = H[a]?) → (∀ q, B q → A q) → X2 A s H → X B U H1) {As rest : List Value} {n index mc ms b : Nat} (hM : CtK l y w rmc D tys X (.ref b :: As) wc mc ms psi val wo) (hG : GoodIn Ts w) (hyn : y.name = "<init>") (hini : Cond.initialized y.cls ∈ Ts) (hlk : Cond.methodLink own index y ∈ Ts) (him : Cond.instanceMethod y ∈ Ts) (hd : y.cls ≠ "java/lang/invoke/MethodHandle" ∧ y.cls ≠ "java/lang/invoke/VarHandle" ∧ (parseMethodDescriptor y.desc).map (fun d => d.parameters.length) = some n) (hw : w = Cond.code y bytes maxL none :: w') (hrm : rmc.cells = mc ∧ rmc.slots = ms) (hR9 : rmc.frames + 1 ≤ rm.frames ∧ 8 + (maxL + 11) + rmc.locals ≤ rm.locals) (hn : As.length = n) (isC : List Nat) (hC : isC.map (fun i => ws[i]?) = wc.map some) (isR : List Nat) {wr : va_W} (hR : isR.map (fun i => ws[i]?) = wr.map some) (hnR : va_nd isR = true) (hdis : isR.all (fun i => !isC.contains i) = true) (pm : List Nat) (hpm : va_nd pm = true) (ws' : S → va_W) (hpw : ∀ u : S, pm.map (fun i => (wr ++ wo u)[i]?) = (ws' u).map some) (hst : st = As.reverse ++ .ref b :: rest) (hcat : (rest.map fun v => v.category).sum ≤ 8) (hdg : decode cc pc = .ok (.invokespecial index, 3)) (k1 n1 : Nat) (hk1 : kC + mc = k1) (hn1 : nS + ms = n1) (hkn : k1 ≤ rm.cells ∧ n1 ≤ rm.slots) (hnd : va_nd isC = true) (kk : ∀ u : S, psi u → JK l rm D ε k1 n1 (ws' u) (pc + 3) lv ((val u).toList ++ rest)) : JK l rm D ε kC nS ws pc lv st := by
  subst hk1
  subst hn1
  obtain ⟨p, e, s, m, args, below, meth, c, Q, A, nL⟩ := ε
  obtain ⟨hx, hb, hml, hown, hts, hr, hlocks, hK, hA, hNW, hZ⟩ := E
  intro H locs ls hP hD hS hl
  subst hst
  have hPc : va_P D vwCl wc H := hP.sub isC (by
    have h9 := congrArg (List.filterMap id) hC
    simpa [List.filterMap_map, Function.comp_def] using h9)
  have hFc := va_free (wc := wc) hD hS hA isC hC
  have hDc := va_D_cut hD isC hnd hC
  exact jk_behindK (va_runI ⟨hx, hb, hml, hown, hts⟩ (hM H.size) (cwI n hts hG hw hrm.1 hrm.2 (hts _ hini) (hts _ hlk) (hts _ him) hyn hd hR9) ⟨WdX.callingE hXm, fun U hU hW => ⟨rfl, Wd.at hK hNW hZ hS hPc hDc hFc U hU hW, hXc A _ s U s.heap U.heap hW (by rw [hU]; exact hS.2.1) hFc XX.2⟩⟩ rfl hn hl.1 rfl (lv_room hcat) hdg hkn) hP hD hS isC isR hC hR hnR hdis pm hpm hpw hFc (fun u hu H locs hP hD hS => kk u hu H locs ls hP hD hS hl)
end RulesIX
theorem df_X9 : ∀ j, j < 7 → defaultValue (tyX9 j) = vp_V [.null, .null, .null, .null, .null, .null, .null] j := fun j hj => match j, hj with
  | 0, _ => rfl
  | 1, _ => rfl
  | 2, _ => rfl
  | 3, _ => rfl
  | 4, _ => rfl
  | 5, _ => rfl
  | 6, _ => rfl
  | k + 7, h => absurd h (by omega)
theorem df_X10 : ∀ j, j < 17 → defaultValue (tyX10 j) = vp_V [.null, .null, .null, .int (nI 0), .null, .int (nI 0), .int (nI 0), .null, .null, .int (nI 0), .null, .null, .null, .null, .null, .null, .null] j := fun j hj => match j, hj with
  | 0, _ => rfl
  | 1, _ => rfl
  | 2, _ => rfl
  | 3, _ => rfl
  | 4, _ => rfl
  | 5, _ => rfl
  | 6, _ => rfl
  | 7, _ => rfl
  | 8, _ => rfl
  | 9, _ => rfl
  | 10, _ => rfl
  | 11, _ => rfl
  | 12, _ => rfl
  | 13, _ => rfl
  | 14, _ => rfl
  | 15, _ => rfl
  | 16, _ => rfl
  | k + 17, h => absurd h (by omega)
theorem hd_X9_init : yX9_init.cls ≠ "java/lang/invoke/MethodHandle" ∧ yX9_init.cls ≠ "java/lang/invoke/VarHandle" ∧ (parseMethodDescriptor yX9_init.desc).map (fun d => d.parameters.length) = some 0 := by decide +kernel
theorem hd_X10_init : yX10_init.cls ≠ "java/lang/invoke/MethodHandle" ∧ yX10_init.cls ≠ "java/lang/invoke/VarHandle" ∧ (parseMethodDescriptor yX10_init.desc).map (fun d => d.parameters.length) = some 0 := by decide +kernel
set_option maxRecDepth 100000 in
set_option maxHeartbeats 4000000 in
theorem law_main {ak av : Nat} {r9 : Option Nat} {nm : String} (EE : En D [(cI, .int), (cC, .char), (cJ, .long), (cG, .object "PushdownGameSolver$Game")] ε cL_law RL wsL_law ret) (XX : XE ε (XT ak av (va_rf r9)) nm) (SC : ScE ε b L xs) (FE : FinL ε b) (hn4 : ε.2.2.2.2.2.2.2.2.2.2 = 4) (hL : L ≤ 3072) : JK l room_1 D ε 0 0 [] 0 [(0, .ref b)] [] := by
  refine jk_new (ci := 5) EE inlX9 tyX9 tyX9_ok (List.mem_of_getElem? (i := 0) rfl) (List.mem_of_getElem? (i := 1) rfl) (List.mem_of_getElem? (i := 2) rfl) rfl df_X9 1 7 rfl rfl (Nat.le_of_ble_eq_true rfl) (Nat.le_of_ble_eq_true rfl) dL_law_0 (fun q0 => ?_)
  show JK l _ D ε _ _ [(q0, .inr (5, [.null, .null, .null, .null, .null, .null, .null]))] _ _ _
  refine jk_dup EE rfl dL_law_3 ?_
  refine jk_IX (wr := []) EE XX (XT_m ak av (va_rf r9)) (XT.c ak av (va_rf r9)) (c_X9_init q0 ak av r9) gL_law_X9_init rfl (List.mem_of_getElem? (i := 2) rfl) (List.mem_of_getElem? (i := 6) rfl) (List.mem_of_getElem? (i := 7) rfl) hd_X9_init rfl ⟨rfl, rfl⟩ ⟨(Nat.le_of_ble_eq_true rfl), (Nat.le_of_ble_eq_true rfl)⟩ rfl [0] rfl [] rfl (by decide) (by decide) [0, 1, 2, 3, 4, 5, 6, 7, 8, 9, 10, 11, 12, 13, 14, 15, 16, 17, 18, 19, 20, 21, 22, 23, 24, 25, 26, 27, 28, 29] (by decide) (fun u => wX cI cC cJ cG u.1 u.2.1 u.2.2 x00) (fun _ => rfl) rfl (Nat.le_of_ble_eq_true rfl) dL_law_4 30 526 rfl rfl ⟨(Nat.le_of_ble_eq_true rfl), (Nat.le_of_ble_eq_true rfl)⟩ (by decide) (fun u hu => ?_)
  obtain ⟨H, hk, hr⟩ := u
  have hu2 : H 0 = q0 := hu
  subst hu2
  show JK l _ D ε _ _ (wX cI cC cJ cG H hk hr x00) _ _ [.ref (H 0)]
  refine jk_astore_n EE [(1, _), (0, _)] dL_law_7 rfl (Nat.lt_of_lt_of_eq (by decide) hn4.symm) rfl ?_
  refine jk_new (ci := 6) EE inlX10 tyX10 tyX10_ok (List.mem_of_getElem? (i := 3) rfl) (List.mem_of_getElem? (i := 4) rfl) (List.mem_of_getElem? (i := 5) rfl) rfl df_X10 31 543 rfl rfl (Nat.le_of_ble_eq_true rfl) (Nat.le_of_ble_eq_true rfl) dL_law_8 (fun q1 => ?_)
  refine jk_dup EE rfl dL_law_11 ?_
  refine jk_I (wr := wX cI cC cJ cG H hk hr x00) EE XX XN.m (XN.c _) (c_X10_init q1) gL_law_X10_init rfl (List.mem_of_getElem? (i := 5) rfl) (List.mem_of_getElem? (i := 226) rfl) (List.mem_of_getElem? (i := 227) rfl) hd_X10_init rfl ⟨rfl, rfl⟩ ⟨(Nat.le_of_ble_eq_true rfl), (Nat.le_of_ble_eq_true rfl)⟩ rfl [30] rfl [0, 1, 2, 3, 4, 5, 6, 7, 8, 9, 10, 11, 12, 13, 14, 15, 16, 17, 18, 19, 20, 21, 22, 23, 24, 25, 26, 27, 28, 29] rfl (by decide) (by decide) [0, 1, 2, 3, 4, 5, 6, 7, 8, 9, 10, 11, 12, 13, 14, 15, 16, 17, 18, 19, 20, 21, 22, 23, 24, 25, 26, 27, 28, 29, 30, 31, 32, 33, 34, 35, 36, 37, 38, 39, 40, 41, 42, 43] (by decide) (fun u => wX cI cC cJ cG H hk hr x00 ++ wM cI cC cJ cG u m00) (fun _ => rfl) rfl (Nat.le_of_ble_eq_true rfl) dL_law_12 44 1825 rfl rfl ⟨(Nat.le_of_ble_eq_true rfl), (Nat.le_of_ble_eq_true rfl)⟩ (by decide) (fun h hu => ?_)
  have hu2 : h 0 = q1 := hu
  subst hu2
  show JK l _ D ε _ _ _ _ _ [.ref (h 0)]
  refine jk_astore_n EE [(2, _), (1, _), (0, _)] dL_law_15 rfl (Nat.lt_of_lt_of_eq (by decide) hn4.symm) rfl ?_
  refine jk_iconst (v := nI 0) EE dL_law_16 (by decide) ?_
  refine jk_istore_n EE [(3, _), (2, _), (1, _), (0, _)] dL_law_17 rfl (Nat.lt_of_lt_of_eq (by decide) hn4.symm) rfl ?_
  exact law_loop EE SC FE hn4 hL (L + 1) 0 x00 m00 (by omega) (by omega) inv00
end Law2
section Law3
set_option maxRecDepth 100000 in
theorem nw_in : ∀ q ∈ nwL, Cond.methodLinkNest q.1 q.2.1 q.2.2 RX9 ∈ lw_tbl := by
  have h : ∀ w ∈ nwL.map (fun q => Cond.methodLinkNest q.1 q.2.1 q.2.2 RX9), w ∈ lw_tbl := mem_fm [83, 593, 184, 68, 578, 543, 420, 285, 146, 596, 665] rfl
  intro q hq
  exact h _ (List.mem_map.mpr ⟨q, hq, rfl⟩)
def flL : List Cond := flatC (Jvm.Cond.and given_1 narrow_1)
def sT : Term := Term.string RX9 52
def wT : Term := Term.static RX0 "SETS_WITH_STATE" "[I"
set_option maxRecDepth 100000 in
theorem el_S : ∀ j, j < 61 → flL[20 + j]? = some (Cond.eq (.elem (.field sT "java/lang/String" "value" "[B") (.int (Int32.ofNat j))) (.int (itB.getD j 0))) := by decide +kernel
set_option maxRecDepth 100000 in
theorem el_W : ∀ j, j < 4 → flL[12 + j]? = some (Cond.eq (.elem wT (.int (Int32.ofNat j))) (.int (nI (swsN j)))) := by decide +kernel
theorem ref_of {v : Value} (h : v.isRef = true) : ∃ r : Option Nat, v = va_rf r := by
  cases v with
  | null => exact ⟨none, rfl⟩
  | ref q => exact ⟨some q, rfl⟩
  | _ => exact absurd h Bool.false_ne_true
set_option maxRecDepth 100000 in
set_option maxHeartbeats 4000000 in
theorem whole_start {p : Program} {e : Env} {s : State} {m : MethodId} {below : List Frame} {meth : Method} {c : Code} (l : Launch) (hflags : l.flags = flags0) {b L : Nat} {xs : Nat → Int32} (hL : L ≤ 3072) (C0 : lw_At p s m meth c b L xs) : W p l e room_1 s m #[Value.ref b] below meth c s.heap [] 0 0 (lw_Z below #[Value.ref b] s) (entryFrame m ([Value.ref b] : List Value).toArray 4) := by
  obtain ⟨hx, hb, hr, hml, hown, hts, hX, hbl, hlocks, hgv⟩ := id C0
  have hs : ∀ w ∈ flL, w.before #[Value.ref b] s = true := flat_of_before _ hgv
  have htsL : ∀ w ∈ wsL_law, w.before #[Value.ref b] s = true := fun w hw => hts w (wsL_law_in w hw)
  have hA0 : ∀ a : Nat, a < s.heap.size → ¬ (fun q : Nat => s.heap.size ≤ q) a := fun a ha => Nat.not_le.mpr ha
  obtain ⟨c0, i0, k0⟩ := u_known (C := RX0) (T := TX0) (N := 5) (n := 5) hts inX0 (hts _ (List.mem_of_getElem? (i := 159) rfl))
  obtain ⟨c1, i1, k1⟩ := u_known (C := RX1) (T := TX1) (N := 9) (n := 9) hts inX1 (hts _ (List.mem_of_getElem? (i := 82) rfl))
  obtain ⟨c2, i2, k2⟩ := u_known (C := RX2) (T := TX2) (N := 2) (n := 2) hts inX2 (hts _ (List.mem_of_getElem? (i := 67) rfl))
  obtain ⟨c3, i3, k3⟩ := u_known (C := RX3) (T := TX3) (N := 3) (n := 3) hts inX3 (hts _ (List.mem_of_getElem? (i := 139) rfl))
  obtain ⟨c4, i4, k4⟩ := u_known (C := RX8) (T := TX8) (N := 2) (n := 2) hts inX8 (hts _ (List.mem_of_getElem? (i := 183) rfl))
  obtain ⟨c5, i5, k5⟩ := u_known (C := RX9) (T := TX9) (N := 7) (n := 7) hts inX9 (hts _ (List.mem_of_getElem? (i := 59) rfl))
  obtain ⟨c6, i6, k6⟩ := u_known (C := RX10) (T := TX10) (N := 17) (n := 17) hts inX10 (hts _ (List.mem_of_getElem? (i := 667) rfl))
  obtain ⟨D, hKc⟩ : ∃ D : va_G, ∀ (k : Nat) (q : vw_C), vwCl[k]? = some q → u_Kn s q.1 q.2.1 q.2.2 (D.1 k) (D.2 k) := by
    refine ⟨(fun k => if k = 0 then c0 else if k = 1 then c1 else if k = 2 then c2 else if k = 3 then c3 else if k = 4 then c4 else if k = 5 then c5 else c6, fun k => if k = 0 then i0 else if k = 1 then i1 else if k = 2 then i2 else if k = 3 then i3 else if k = 4 then i4 else if k = 5 then i5 else i6), ?_⟩
    intro k q hq
    match k, hq with
    | 0, hq => cases hq; exact k0
    | 1, hq => cases hq; exact k1
    | 2, hq => cases hq; exact k2
    | 3, hq => cases hq; exact k3
    | 4, hq => cases hq; exact k4
    | 5, hq => cases hq; exact k5
    | 6, hq => cases hq; exact k6
    | k + 7, hq => simp [vwCl] at hq
  obtain ⟨cI, kI, pI, fI1, fI2, fI3⟩ := Cond.arrayClass_spec (hts (.arrayClass .int) (List.mem_of_getElem? (i := 137) rfl))
  obtain ⟨cC, kC, pC, fC1, fC2, fC3⟩ := Cond.arrayClass_spec (hts (.arrayClass .char) (List.mem_of_getElem? (i := 80) rfl))
  obtain ⟨cJ, kJ, pJ, fJ1, fJ2, fJ3⟩ := Cond.arrayClass_spec (hts (.arrayClass .long) (List.mem_of_getElem? (i := 195) rfl))
  have hao : va_AO RX1 s := va_AO.of (hts (.arrayOver (.object RX1)) (List.mem_of_getElem? (i := 145) rfl))
  obtain ⟨pG, cG, kG, fG1, fG2, fG3, fG4, fG5⟩ := Cond.arrayOver_spec hao
  have hK : va_K D vwCl [(cI, .int), (cC, .char), (cJ, .long), (cG, .object "PushdownGameSolver$Game")] s := by
    refine ⟨hKc, fun k q hq => ?_⟩
    match k, hq with
    | 0, hq => cases hq; exact ⟨fun n z => ⟨(fun k h => by cases h), kI, fI2, pI, fI3⟩, fI1⟩
    | 1, hq => cases hq; exact ⟨fun n z => ⟨(fun k h => by cases h), kC, fC2, pC, fC3⟩, fC1⟩
    | 2, hq => cases hq; exact ⟨fun n z => ⟨(fun k h => by cases h), kJ, fJ2, pJ, fJ3⟩, fJ1⟩
    | 3, hq => cases hq; exact ⟨fun n z => ⟨(fun k h => by cases h), kG, fG3, pG, fG4⟩, kG, pG, fG3, fG4, fG1, fG5⟩
    | k + 4, hq => simp at hq
  have hN : NW s := fun q hq => va_Nw.of rfl (hts _ (nw_in q hq))
  obtain ⟨t9, ht9, hT9⟩ := va_Tof (tm := wT) (ty := .int) (N := 4) (f := fun j => .int (nI (swsN j))) (A := fun q : Nat => s.heap.size ≤ q) (by decide) (hs _ (List.mem_of_getElem? (i := 10) rfl)) (va_eqt (hs _ (List.mem_of_getElem? (i := 11) rfl))) (fun j hj => va_eqt (hs _ (List.mem_of_getElem? (el_W j hj)))) hA0
  have hZ : ZT (fun q : Nat => s.heap.size ≤ q) s s.heap := ⟨t9, va_Zof (hts (.laysStatic RX0 "SETS_WITH_STATE" "[I") (List.mem_of_getElem? (i := 561) rfl)) (hts (.initialized RX0) (List.mem_of_getElem? (i := 45) rfl)) ht9 hA0, hT9⟩
  obtain ⟨adK, adV, hSt, hSr⟩ := vk_Sof (args := #[Value.ref b]) (s := s) (N := 1) (tm := fun _ => sT) (len := [61]) (byt := [itB]) (A := fun q : Nat => s.heap.size ≤ q) (fun i hi => by rw [show i = 0 by omega]; decide) (fun i hi => hs _ (List.mem_of_getElem? (i := 16) rfl)) (fun i hi => hs _ (List.mem_of_getElem? (i := 17) rfl)) (fun i hi => hs _ (List.mem_of_getElem? (i := 18) rfl)) (fun i hi => by rw [show i = 0 by omega]; exact hs _ (List.mem_of_getElem? (i := 19) rfl)) (fun i hi j hj => by
    have hi0 : i = 0 := by omega
    subst hi0
    exact hs _ (List.mem_of_getElem? (el_S j hj))) (fun i j hi hj hij => absurd (show i = j by omega) hij) hA0
  obtain ⟨v9, hv9, hv8⟩ := Cond.isRef_spec (hs (.isRef (Term.static RJ3 "SIOOBE_FORMATTER" "Ljava/util/function/BiFunction;")) (List.mem_of_getElem? (i := 5) rfl))
  obtain ⟨r9, hr9⟩ := ref_of hv8
  subst hr9
  have hXT : XT (adK 0) (adV 0) (va_rf r9) (fun q : Nat => s.heap.size ≤ q) s s.heap := by
    refine ⟨⟨fun i hi => ?_, fun i j hi hj _ => by omega⟩, vk_R.of (hts (.stringRef RX9 52 itS) (List.mem_of_getElem? (i := 196) rfl)) (hSr 0 (by decide)), va_Zof (hts (.laysStatic RJ0 "COMPACT_STRINGS" "Z") (List.mem_of_getElem? (i := 206) rfl)) (hts (.initialized RJ0) (List.mem_of_getElem? (i := 47) rfl)) (va_eqt (hs _ (List.mem_of_getElem? (i := 4) rfl))) hA0, va_Zof (hts (.laysStatic RJ3 "SIOOBE_FORMATTER" "Ljava/util/function/BiFunction;") (List.mem_of_getElem? (i := 222) rfl)) (hts (.initialized RJ3) (List.mem_of_getElem? (i := 49) rfl)) hv9 hA0, hao⟩
    have hi0 : i = 0 := by omega
    subst hi0
    exact hSt.1 0 (by decide)
  have EE : En D [(cI, .int), (cC, .char), (cJ, .long), (cG, .object "PushdownGameSolver$Game")] (p, e, s, m, #[Value.ref b], below, meth, c, lw_Z below #[Value.ref b] s, (fun q : Nat => s.heap.size ≤ q), 4) cL_law RL wsL_law ret := ⟨hx, hb, hml, hown, htsL, hr, hlocks, hK, fun _ h => h, hN, hZ⟩
  have main := law_main (l := l) (L := L) (xs := xs) (nm := meth.name) EE ⟨rfl, hXT⟩ ⟨hX, hbl, Nat.not_le.mpr hbl⟩ ⟨rfl, rfl, rfl⟩ rfl hL
  have hl := lv_entry ([.ref b]) (n := 4) (Nat.le_of_ble_eq_true rfl)
  rw [lg_entry_eq]
  generalize (lg_sl ([.ref b]) ++ List.replicate (4 - (lg_sl ([.ref b])).length) Slot.unset).toArray = ls at hl ⊢
  have hl : lv_has ls 4 [(0, .ref b)] := hl
  exact main s.heap [] ls (fun k q h => by simp at h) ⟨fun i j p q h => by simp at h, fun k q h => by simp at h⟩ va_S.rf hl
end Law3
