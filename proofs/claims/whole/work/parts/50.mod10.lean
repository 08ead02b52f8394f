section G_50_mod10
variable {l : Launch} {D : va_G} {cI cC cJ cG : ClassId}

abbrev RT : Type := Nat × (Nat → Int32)
def riT (E : Nat → Nat) (sp a b c u v : Nat) : Option (Nat × (Nat → Nat)) := if hrC E (a - 1) (b - 1) (E 4) < 3 ∧ E 4 < 16 then some (sp, ruF E (a - 1) (b - 1) (c - 1) u v) else none
/-- a rule read at sp: the spot behind it and the game with it -/
def riM (ft : Nat → Nat) (le : Nat) (E : Nat → Nat) (sp : Nat) : Option (Nat × (Nat → Nat)) :=
  if fig (ltr ft le sp) (E 0) = 0 then none else if ¬ ltr ft le (sp + 1) = 44 then none else
  if fig (ltr ft le (sp + 1 + 1)) (E 1) = 0 then none else if ¬ ltr ft le (sp + 1 + 1 + 1) = 44 then none else
  if fig (ltr ft le (sp + 1 + 1 + 1 + 1)) (E 0) = 0 then none else
  if ltr ft le (sp + 1 + 1 + 1 + 1 + 1) = 44 then
    (if fig (ltr ft le (sp + 1 + 1 + 1 + 1 + 1 + 1)) (E 1) = 0 then none else
     if ltr ft le (sp + 1 + 1 + 1 + 1 + 1 + 1 + 1) = 44 then
       (if fig (ltr ft le (sp + 1 + 1 + 1 + 1 + 1 + 1 + 1 + 1)) (E 1) = 0 then none else
        if ltr ft le (sp + 1 + 1 + 1 + 1 + 1 + 1 + 1 + 1 + 1) = 59 then riT E (sp + 1 + 1 + 1 + 1 + 1 + 1 + 1 + 1 + 1 + 1) (fig (ltr ft le sp) (E 0)) (fig (ltr ft le (sp + 1 + 1)) (E 1)) (fig (ltr ft le (sp + 1 + 1 + 1 + 1)) (E 0)) (fig (ltr ft le (sp + 1 + 1 + 1 + 1 + 1 + 1)) (E 1)) (fig (ltr ft le (sp + 1 + 1 + 1 + 1 + 1 + 1 + 1 + 1)) (E 1)) else none)
     else if ltr ft le (sp + 1 + 1 + 1 + 1 + 1 + 1 + 1) = 59 then riT E (sp + 1 + 1 + 1 + 1 + 1 + 1 + 1 + 1) (fig (ltr ft le sp) (E 0)) (fig (ltr ft le (sp + 1 + 1)) (E 1)) (fig (ltr ft le (sp + 1 + 1 + 1 + 1)) (E 0)) (fig (ltr ft le (sp + 1 + 1 + 1 + 1 + 1 + 1)) (E 1)) 0 else none)
  else if ltr ft le (sp + 1 + 1 + 1 + 1 + 1) = 59 then riT E (sp + 1 + 1 + 1 + 1 + 1 + 1) (fig (ltr ft le sp) (E 0)) (fig (ltr ft le (sp + 1 + 1)) (E 1)) (fig (ltr ft le (sp + 1 + 1 + 1 + 1)) (E 0)) 0 0 else none
def s1M (ft : Nat → Nat) (le : Nat) (E : Nat → Nat) (sp : Nat) : Option (Nat × (Nat → Nat)) :=
  if ¬ ltr ft le sp = 103 then none else if fig (ltr ft le (sp + 1)) 5 ≤ 1 then none else if ¬ ltr ft le (sp + 1 + 1) = 44 then none else
  if fig (ltr ft le (sp + 1 + 1 + 1)) 4 ≤ 1 then none else if ¬ ltr ft le (sp + 1 + 1 + 1 + 1) = 59 then none else
  some (sp + 1 + 1 + 1 + 1 + 1, updN (updN E 0 (fig (ltr ft le (sp + 1)) 5 - 1)) 1 (fig (ltr ft le (sp + 1 + 1 + 1)) 4 - 1))
def s0M (ft : Nat → Nat) (le : Nat) (E : Nat → Nat) (sp : Nat) : Option (Nat × (Nat → Nat)) :=
  if ltr ft le sp = 111 ∨ ltr ft le sp = 116 then (if fig (ltr ft le (sp + 1)) (E 0) = 0 then none else if ¬ ltr ft le (sp + 1 + 1) = 59 then none else
    if ltr ft le sp = 111 then some (sp + 1 + 1 + 1, updN E 2 (wbit (E 2) (fig (ltr ft le (sp + 1)) (E 0) - 1) 1)) else some (sp + 1 + 1 + 1, updN E 3 (wbit (E 3) (fig (ltr ft le (sp + 1)) (E 0) - 1) 1)))
  else if ltr ft le sp = 114 then riM ft le E (sp + 1) else none
def eOk (E : Nat → Nat) : Prop := (∀ i, E i < 65536) ∧ E 0 ≤ 4 ∧ E 1 ≤ 3 ∧ E 2 < 16 ∧ E 3 < 16 ∧ E 4 ≤ 16 ∧ ∀ i, 99 ≤ i → E i = 0
theorem sA_99 {E : Nat → Nat} (h : ∀ i, 99 ≤ i → E i = 0) (i : Nat) (hi : 99 ≤ i) : sA E i = nI 0 := by
  rw [sA_n (by omega), h i hi]
theorem up_99 {f : Nat → Int32} {k : Nat} {x : Int32} (hk : k < 99) (h : ∀ i, 99 ≤ i → f i = nI 0) (i : Nat) (hi : 99 ≤ i) : upd f k x i = nI 0 := by
  unfold upd
  rw [if_neg (by omega), h i hi]
theorem un_99 {E : Nat → Nat} {k x : Nat} (hk : k < 99) (h : ∀ i, 99 ≤ i → E i = 0) (i : Nat) (hi : 99 ≤ i) : updN E k x i = 0 := by
  unfold updN
  rw [if_neg (by omega), h i hi]
theorem ru_99 {E : Nat → Nat} {a b c u v : Nat} (h4 : E 4 < 16) (h : ∀ i, 99 ≤ i → E i = 0) : ∀ i, 99 ≤ i → ruF E a b c u v i = 0 := by
  unfold ruF
  exact un_99 (by omega) (un_99 (by omega) (un_99 (by omega) (un_99 (by omega) (un_99 (by omega) (un_99 (by omega) h)))))
theorem fig_le (c b : Nat) : fig c b ≤ b := by
  unfold fig
  split <;> omega

theorem iw_X10_ruleIs_X10 : ∀ w ∈ wsX100, w ∈ wsX10_ruleIs := fun _ h => List.mem_cons_of_mem _ (List.mem_append_right _ h)
theorem lk_X10_ruleIs_13 : Cond.fieldLink RX10 13 (TX10 1).1 (TX10 1).2.1 (TX10 1).2.2.1 ∈ wsX10_ruleIs := List.mem_of_getElem? (i := 1) rfl
theorem hd_X10_figure : yX10_figure.cls ≠ "java/lang/invoke/MethodHandle" ∧ yX10_figure.cls ≠ "java/lang/invoke/VarHandle" ∧ (parseMethodDescriptor yX10_figure.desc).map (fun d => d.parameters.length) = some 1 := by decide +kernel
set_option maxHeartbeats 4000000 in
set_option maxRecDepth 100000 in
theorem c_X10_ruleIs (h F Q ft B Bt a1 a2 a3 a4 a5 : Nat → Nat) (fr : Nat → Int32) (W M : Nat → Int64) (km le sp ro : Nat) (E : Nat → Nat) (hft : ∀ i, ft i < 65536) (hle : le ≤ 200) (hsp : sp < 300) (hE : eOk E) : Ct l yX10_ruleIs wsX10_ruleIs (rmD (2)) D [(cI, .int), (cC, .char), (cJ, .long), (cG, .object "PushdownGameSolver$Game")] [.ref ((h 0))] [((h 0), .inr (6, [.ref ((h 1)), .ref ((h 2)), .ref ((h 3)), .int (nI km), .ref ((h 4)), .int (nI le), .int (nI sp), .ref ((h 5)), .ref ((h 6)), .int (nI ro), .ref ((h 7)), .ref ((h 8)), .ref ((h 9)), .ref ((h 10)), .ref ((h 11)), .ref ((h 12)), .ref ((h 13))])), ((h 1), .inl (cI, 99, .inl (sA F))), ((h 2), .inl (cI, 99, .inl (sA E))), ((h 3), .inl (cI, 594, .inl (kA Q))), ((h 4), .inl (cI, 200, .inl (fun zz => nI (ft zz)))), ((h 5), .inl (cI, 12, .inl (fun zz => nI (B zz)))), ((h 6), .inl (cI, 12, .inl (fun zz => nI (Bt zz)))), ((h 7), .inl (cJ, 16, .inr (.inl W))), ((h 8), .inl (cJ, 16, .inr (.inl M))), ((h 9), .inl (cI, 9, .inl (fun zz => nI (a1 zz)))), ((h 10), .inl (cI, 9, .inl (fun zz => nI (a2 zz)))), ((h 11), .inl (cI, 198, .inl (fun zz => nI (a3 zz)))), ((h 12), .inl (cI, 9, .inl (fun zz => nI (a4 zz)))), ((h 13), .inl (cI, 9, .inl (fA a5)))] (S := RT) (fun u => (∀ q, riM ft le E sp = some q → u = (q.1, sA q.2)) ∧ ∀ i, 99 ≤ i → u.2 i = nI 0) (fun u => some (.int (nI (b2n (riM ft le E sp).isSome)))) (fun u => [((h 0), .inr (6, [.ref ((h 1)), .ref ((h 2)), .ref ((h 3)), .int (nI km), .ref ((h 4)), .int (nI le), .int (nI u.1), .ref ((h 5)), .ref ((h 6)), .int (nI ro), .ref ((h 7)), .ref ((h 8)), .ref ((h 9)), .ref ((h 10)), .ref ((h 11)), .ref ((h 12)), .ref ((h 13))])), ((h 1), .inl (cI, 99, .inl (sA F))), ((h 2), .inl (cI, 99, .inl u.2)), ((h 3), .inl (cI, 594, .inl (kA Q))), ((h 4), .inl (cI, 200, .inl (fun zz => nI (ft zz)))), ((h 5), .inl (cI, 12, .inl (fun zz => nI (B zz)))), ((h 6), .inl (cI, 12, .inl (fun zz => nI (Bt zz)))), ((h 7), .inl (cJ, 16, .inr (.inl W))), ((h 8), .inl (cJ, 16, .inr (.inl M))), ((h 9), .inl (cI, 9, .inl (fun zz => nI (a1 zz)))), ((h 10), .inl (cI, 9, .inl (fun zz => nI (a2 zz)))), ((h 11), .inl (cI, 198, .inl (fun zz => nI (a3 zz)))), ((h 12), .inl (cI, 9, .inl (fun zz => nI (a4 zz)))), ((h 13), .inl (cI, 9, .inl (fA a5)))]) := by
  refine Ct.of (lv := [(0, .ref ((h 0)))]) (by decide) rfl (Nat.le_of_ble_eq_true rfl) rfl ?_
  intro ε hL EE FF
  obtain ⟨hEb, hE0, hE1, hE2, hE3, hE4, hE9⟩ := hE
  refine j_aload_n EE 0 dX10_ruleIs_0 rfl rfl ?_
  refine j_aload_n EE 0 dX10_ruleIs_1 rfl rfl ?_
  refine j_get (T := TX10) EE iw_X10_ruleIs_X10 0 rfl rfl 1 (by decide) lk_X10_ruleIs_13 rfl dX10_ruleIs_2 ?_
  refine j_iconst (v := nI 0) EE dX10_ruleIs_5 (by decide) ?_
  refine j_iald EE 2 0 rfl rfl (vp_in_nI (n := 0) (by omega) (by decide)) dX10_ruleIs_6 ?_
  refine j_topE (congrArg (sA E) (nI_clamp (n := 0) (by omega))) ?_
  refine j_topE (y := nI (E 0)) (sA_n (by omega)) ?_
  refine j_V2 (n9 := 14) EE (c_X10_figure h F Q ft B Bt a1 a2 a3 a4 a5 (sA E) W M km le sp ro (E 0) hft (by omega) (by omega) (by omega)) gX10_ruleIs_X10_figure ⟨rfl, hd_X10_figure⟩ rfl ⟨rfl, rfl⟩ ⟨by decide, by decide⟩ rfl [0, 1, 2, 3, 4, 5, 6, 7, 8, 9, 10, 11, 12, 13] rfl [] [((h 0), .inr (6, [.ref ((h 1)), .ref ((h 2)), .ref ((h 3)), .int (nI km), .ref ((h 4)), .int (nI le), .int (nI (sp + 1)), .ref ((h 5)), .ref ((h 6)), .int (nI ro), .ref ((h 7)), .ref ((h 8)), .ref ((h 9)), .ref ((h 10)), .ref ((h 11)), .ref ((h 12)), .ref ((h 13))])), ((h 1), .inl (cI, 99, .inl (sA F))), ((h 2), .inl (cI, 99, .inl (sA E))), ((h 3), .inl (cI, 594, .inl (kA Q))), ((h 4), .inl (cI, 200, .inl (fun zz => nI (ft zz)))), ((h 5), .inl (cI, 12, .inl (fun zz => nI (B zz)))), ((h 6), .inl (cI, 12, .inl (fun zz => nI (Bt zz)))), ((h 7), .inl (cJ, 16, .inr (.inl W))), ((h 8), .inl (cJ, 16, .inr (.inl M))), ((h 9), .inl (cI, 9, .inl (fun zz => nI (a1 zz)))), ((h 10), .inl (cI, 9, .inl (fun zz => nI (a2 zz)))), ((h 11), .inl (cI, 198, .inl (fun zz => nI (a3 zz)))), ((h 12), .inl (cI, 9, .inl (fun zz => nI (a4 zz)))), ((h 13), .inl (cI, 9, .inl (fA a5)))] (fun _ => rfl) [] [(h 0), (h 1), (h 2), (h 3), (h 4), (h 5), (h 6), (h 7), (h 8), (h 9), (h 10), (h 11), (h 12), (h 13)] rfl rfl rfl rfl rfl (by decide) (by decide) 0 rfl rfl rfl (Nat.le_of_ble_eq_true rfl) dX10_ruleIs_7 (fun u_7 h_7 => ?_) rfl
  show J l _ D ε _ _ _ (.int (nI (fig (ltr ft le sp) (E 0)) - nI 1) :: _)
  refine j_istore_n EE [(1, _), (0, _)] dX10_ruleIs_10 rfl (Nat.lt_of_lt_of_eq (by decide) hL.symm) rfl ?_
  refine j_iload_n EE 0 dX10_ruleIs_11 rfl rfl ?_
  refine j_if_lt EE 24 dX10_ruleIs_12 (by decide) (fun c12 => ?_) (fun c12 => ?_)
  · skip
    have m12 : fig (ltr ft le sp) (E 0) = 0 := (m1_lt (by have := fig_le (ltr ft le sp) (E 0); omega)).mp c12
    refine j_iconst (v := nI 0) EE dX10_ruleIs_24 (by decide) ?_
    have hR : riM ft le E sp = none := by
      unfold riM
      (repeat (first | rw [if_pos (by omega)] | rw [if_neg (by omega)]))
      try (unfold riT; rw [if_neg (by assumption)])
    exact j_zret EE FF (by decide) dX10_ruleIs_25 (sp + 1, (sA E)) ⟨fun q hq => by rw [hR] at hq; exact absurd hq (by simp), sA_99 hE9⟩ (by rw [hR]; rfl) rfl
  · skip
    have g12 := fig_le (ltr ft le sp) (E 0)
    have m12 : ¬ fig (ltr ft le sp) (E 0) = 0 := fun hq => c12 ((m1_lt (by have := fig_le (ltr ft le sp) (E 0); omega)).mpr hq)
    rw [show nI (fig (ltr ft le sp) (E 0)) - nI 1 = nI (fig (ltr ft le sp) (E 0) - 1) from pk_sub (by omega)]
    refine j_aload_n EE 1 dX10_ruleIs_15 rfl rfl ?_
    refine j_V2 (n9 := 14) EE (c_X10_letter h F Q ft B Bt a1 a2 a3 a4 a5 (sA E) W M km le (sp + 1) ro hft (by omega) (by omega)) gX10_ruleIs_X10_letter ⟨rfl, hd_X10_letter⟩ rfl ⟨rfl, rfl⟩ ⟨by decide, by decide⟩ rfl [0, 1, 2, 3, 4, 5, 6, 7, 8, 9, 10, 11, 12, 13] rfl [] [((h 0), .inr (6, [.ref ((h 1)), .ref ((h 2)), .ref ((h 3)), .int (nI km), .ref ((h 4)), .int (nI le), .int (nI ((sp + 1) + 1)), .ref ((h 5)), .ref ((h 6)), .int (nI ro), .ref ((h 7)), .ref ((h 8)), .ref ((h 9)), .ref ((h 10)), .ref ((h 11)), .ref ((h 12)), .ref ((h 13))])), ((h 1), .inl (cI, 99, .inl (sA F))), ((h 2), .inl (cI, 99, .inl (sA E))), ((h 3), .inl (cI, 594, .inl (kA Q))), ((h 4), .inl (cI, 200, .inl (fun zz => nI (ft zz)))), ((h 5), .inl (cI, 12, .inl (fun zz => nI (B zz)))), ((h 6), .inl (cI, 12, .inl (fun zz => nI (Bt zz)))), ((h 7), .inl (cJ, 16, .inr (.inl W))), ((h 8), .inl (cJ, 16, .inr (.inl M))), ((h 9), .inl (cI, 9, .inl (fun zz => nI (a1 zz)))), ((h 10), .inl (cI, 9, .inl (fun zz => nI (a2 zz)))), ((h 11), .inl (cI, 198, .inl (fun zz => nI (a3 zz)))), ((h 12), .inl (cI, 9, .inl (fun zz => nI (a4 zz)))), ((h 13), .inl (cI, 9, .inl (fA a5)))] (fun _ => rfl) [] [(h 0), (h 1), (h 2), (h 3), (h 4), (h 5), (h 6), (h 7), (h 8), (h 9), (h 10), (h 11), (h 12), (h 13)] rfl rfl rfl rfl rfl (by decide) (by decide) 0 rfl rfl rfl (Nat.le_of_ble_eq_true rfl) dX10_ruleIs_16 (fun u_16 h_16 => ?_) rfl
    show J l _ D ε _ _ _ (.int (nI (ltr ft le (sp + 1))) :: _)
    refine j_bipush (v := nI 44) EE dX10_ruleIs_19 (by decide) ?_
    refine j_icmp_eq EE 26 dX10_ruleIs_21 (by decide) (fun c21 => ?_) (fun c21 => ?_)
    · skip
      have n21 : (ltr ft le (sp + 1)) = 44 := (nI_eq (a := (ltr ft le (sp + 1))) (b := 44) (by have := ltr_lt (le := le) (sp := (sp + 1)) hft; omega) (by have := ltr_lt (le := le) (sp := (sp + 1)) hft; omega)).mp c21
      refine j_aload_n EE 1 dX10_ruleIs_26 rfl rfl ?_
      refine j_aload_n EE 1 dX10_ruleIs_27 rfl rfl ?_
      refine j_get (T := TX10) EE iw_X10_ruleIs_X10 0 rfl rfl 1 (by decide) lk_X10_ruleIs_13 rfl dX10_ruleIs_28 ?_
      refine j_iconst (v := nI 1) EE dX10_ruleIs_31 (by decide) ?_
      refine j_iald EE 2 0 rfl rfl (vp_in_nI (n := 1) (by omega) (by decide)) dX10_ruleIs_32 ?_
      refine j_topE (congrArg (sA E) (nI_clamp (n := 1) (by omega))) ?_
      refine j_topE (y := nI (E 1)) (sA_n (by omega)) ?_
      refine j_V2 (n9 := 14) EE (c_X10_figure h F Q ft B Bt a1 a2 a3 a4 a5 (sA E) W M km le ((sp + 1) + 1) ro (E 1) hft (by omega) (by omega) (by omega)) gX10_ruleIs_X10_figure ⟨rfl, hd_X10_figure⟩ rfl ⟨rfl, rfl⟩ ⟨by decide, by decide⟩ rfl [0, 1, 2, 3, 4, 5, 6, 7, 8, 9, 10, 11, 12, 13] rfl [] [((h 0), .inr (6, [.ref ((h 1)), .ref ((h 2)), .ref ((h 3)), .int (nI km), .ref ((h 4)), .int (nI le), .int (nI (((sp + 1) + 1) + 1)), .ref ((h 5)), .ref ((h 6)), .int (nI ro), .ref ((h 7)), .ref ((h 8)), .ref ((h 9)), .ref ((h 10)), .ref ((h 11)), .ref ((h 12)), .ref ((h 13))])), ((h 1), .inl (cI, 99, .inl (sA F))), ((h 2), .inl (cI, 99, .inl (sA E))), ((h 3), .inl (cI, 594, .inl (kA Q))), ((h 4), .inl (cI, 200, .inl (fun zz => nI (ft zz)))), ((h 5), .inl (cI, 12, .inl (fun zz => nI (B zz)))), ((h 6), .inl (cI, 12, .inl (fun zz => nI (Bt zz)))), ((h 7), .inl (cJ, 16, .inr (.inl W))), ((h 8), .inl (cJ, 16, .inr (.inl M))), ((h 9), .inl (cI, 9, .inl (fun zz => nI (a1 zz)))), ((h 10), .inl (cI, 9, .inl (fun zz => nI (a2 zz)))), ((h 11), .inl (cI, 198, .inl (fun zz => nI (a3 zz)))), ((h 12), .inl (cI, 9, .inl (fun zz => nI (a4 zz)))), ((h 13), .inl (cI, 9, .inl (fA a5)))] (fun _ => rfl) [] [(h 0), (h 1), (h 2), (h 3), (h 4), (h 5), (h 6), (h 7), (h 8), (h 9), (h 10), (h 11), (h 12), (h 13)] rfl rfl rfl rfl rfl (by decide) (by decide) 0 rfl rfl rfl (Nat.le_of_ble_eq_true rfl) dX10_ruleIs_33 (fun u_33 h_33 => ?_) rfl
      show J l _ D ε _ _ _ (.int (nI (fig (ltr ft le ((sp + 1) + 1)) (E 1)) - nI 1) :: _)
      refine j_istore_n EE [(2, _), (1, _), (0, _)] dX10_ruleIs_36 rfl (Nat.lt_of_lt_of_eq (by decide) hL.symm) rfl ?_
      refine j_iload_n EE 0 dX10_ruleIs_37 rfl rfl ?_
      refine j_if_lt EE 50 dX10_ruleIs_38 (by decide) (fun c38 => ?_) (fun c38 => ?_)
      · skip
        have m38 : fig (ltr ft le ((sp + 1) + 1)) (E 1) = 0 := (m1_lt (by have := fig_le (ltr ft le ((sp + 1) + 1)) (E 1); omega)).mp c38
        refine j_iconst (v := nI 0) EE dX10_ruleIs_50 (by decide) ?_
        have hR : riM ft le E sp = none := by
          unfold riM
          (repeat (first | rw [if_pos (by omega)] | rw [if_neg (by omega)]))
          try (unfold riT; rw [if_neg (by assumption)])
        exact j_zret EE FF (by decide) dX10_ruleIs_51 (((sp + 1) + 1) + 1, (sA E)) ⟨fun q hq => by rw [hR] at hq; exact absurd hq (by simp), sA_99 hE9⟩ (by rw [hR]; rfl) rfl
      · skip
        have g38 := fig_le (ltr ft le ((sp + 1) + 1)) (E 1)
        have m38 : ¬ fig (ltr ft le ((sp + 1) + 1)) (E 1) = 0 := fun hq => c38 ((m1_lt (by have := fig_le (ltr ft le ((sp + 1) + 1)) (E 1); omega)).mpr hq)
        rw [show nI (fig (ltr ft le ((sp + 1) + 1)) (E 1)) - nI 1 = nI (fig (ltr ft le ((sp + 1) + 1)) (E 1) - 1) from pk_sub (by omega)]
        refine j_aload_n EE 2 dX10_ruleIs_41 rfl rfl ?_
        refine j_V2 (n9 := 14) EE (c_X10_letter h F Q ft B Bt a1 a2 a3 a4 a5 (sA E) W M km le (((sp + 1) + 1) + 1) ro hft (by omega) (by omega)) gX10_ruleIs_X10_letter ⟨rfl, hd_X10_letter⟩ rfl ⟨rfl, rfl⟩ ⟨by decide, by decide⟩ rfl [0, 1, 2, 3, 4, 5, 6, 7, 8, 9, 10, 11, 12, 13] rfl [] [((h 0), .inr (6, [.ref ((h 1)), .ref ((h 2)), .ref ((h 3)), .int (nI km), .ref ((h 4)), .int (nI le), .int (nI ((((sp + 1) + 1) + 1) + 1)), .ref ((h 5)), .ref ((h 6)), .int (nI ro), .ref ((h 7)), .ref ((h 8)), .ref ((h 9)), .ref ((h 10)), .ref ((h 11)), .ref ((h 12)), .ref ((h 13))])), ((h 1), .inl (cI, 99, .inl (sA F))), ((h 2), .inl (cI, 99, .inl (sA E))), ((h 3), .inl (cI, 594, .inl (kA Q))), ((h 4), .inl (cI, 200, .inl (fun zz => nI (ft zz)))), ((h 5), .inl (cI, 12, .inl (fun zz => nI (B zz)))), ((h 6), .inl (cI, 12, .inl (fun zz => nI (Bt zz)))), ((h 7), .inl (cJ, 16, .inr (.inl W))), ((h 8), .inl (cJ, 16, .inr (.inl M))), ((h 9), .inl (cI, 9, .inl (fun zz => nI (a1 zz)))), ((h 10), .inl (cI, 9, .inl (fun zz => nI (a2 zz)))), ((h 11), .inl (cI, 198, .inl (fun zz => nI (a3 zz)))), ((h 12), .inl (cI, 9, .inl (fun zz => nI (a4 zz)))), ((h 13), .inl (cI, 9, .inl (fA a5)))] (fun _ => rfl) [] [(h 0), (h 1), (h 2), (h 3), (h 4), (h 5), (h 6), (h 7), (h 8), (h 9), (h 10), (h 11), (h 12), (h 13)] rfl rfl rfl rfl rfl (by decide) (by decide) 0 rfl rfl rfl (Nat.le_of_ble_eq_true rfl) dX10_ruleIs_42 (fun u_42 h_42 => ?_) rfl
        show J l _ D ε _ _ _ (.int (nI (ltr ft le (((sp + 1) + 1) + 1))) :: _)
        refine j_bipush (v := nI 44) EE dX10_ruleIs_45 (by decide) ?_
        refine j_icmp_eq EE 52 dX10_ruleIs_47 (by decide) (fun c47 => ?_) (fun c47 => ?_)
        · skip
          have n47 : (ltr ft le (((sp + 1) + 1) + 1)) = 44 := (nI_eq (a := (ltr ft le (((sp + 1) + 1) + 1))) (b := 44) (by have := ltr_lt (le := le) (sp := (((sp + 1) + 1) + 1)) hft; omega) (by have := ltr_lt (le := le) (sp := (((sp + 1) + 1) + 1)) hft; omega)).mp c47
          refine j_aload_n EE 2 dX10_ruleIs_52 rfl rfl ?_
          refine j_aload_n EE 2 dX10_ruleIs_53 rfl rfl ?_
          refine j_get (T := TX10) EE iw_X10_ruleIs_X10 0 rfl rfl 1 (by decide) lk_X10_ruleIs_13 rfl dX10_ruleIs_54 ?_
          refine j_iconst (v := nI 0) EE dX10_ruleIs_57 (by decide) ?_
          refine j_iald EE 2 0 rfl rfl (vp_in_nI (n := 0) (by omega) (by decide)) dX10_ruleIs_58 ?_
          refine j_topE (congrArg (sA E) (nI_clamp (n := 0) (by omega))) ?_
          refine j_topE (y := nI (E 0)) (sA_n (by omega)) ?_
          refine j_V2 (n9 := 14) EE (c_X10_figure h F Q ft B Bt a1 a2 a3 a4 a5 (sA E) W M km le ((((sp + 1) + 1) + 1) + 1) ro (E 0) hft (by omega) (by omega) (by omega)) gX10_ruleIs_X10_figure ⟨rfl, hd_X10_figure⟩ rfl ⟨rfl, rfl⟩ ⟨by decide, by decide⟩ rfl [0, 1, 2, 3, 4, 5, 6, 7, 8, 9, 10, 11, 12, 13] rfl [] [((h 0), .inr (6, [.ref ((h 1)), .ref ((h 2)), .ref ((h 3)), .int (nI km), .ref ((h 4)), .int (nI le), .int (nI (((((sp + 1) + 1) + 1) + 1) + 1)), .ref ((h 5)), .ref ((h 6)), .int (nI ro), .ref ((h 7)), .ref ((h 8)), .ref ((h 9)), .ref ((h 10)), .ref ((h 11)), .ref ((h 12)), .ref ((h 13))])), ((h 1), .inl (cI, 99, .inl (sA F))), ((h 2), .inl (cI, 99, .inl (sA E))), ((h 3), .inl (cI, 594, .inl (kA Q))), ((h 4), .inl (cI, 200, .inl (fun zz => nI (ft zz)))), ((h 5), .inl (cI, 12, .inl (fun zz => nI (B zz)))), ((h 6), .inl (cI, 12, .inl (fun zz => nI (Bt zz)))), ((h 7), .inl (cJ, 16, .inr (.inl W))), ((h 8), .inl (cJ, 16, .inr (.inl M))), ((h 9), .inl (cI, 9, .inl (fun zz => nI (a1 zz)))), ((h 10), .inl (cI, 9, .inl (fun zz => nI (a2 zz)))), ((h 11), .inl (cI, 198, .inl (fun zz => nI (a3 zz)))), ((h 12), .inl (cI, 9, .inl (fun zz => nI (a4 zz)))), ((h 13), .inl (cI, 9, .inl (fA a5)))] (fun _ => rfl) [] [(h 0), (h 1), (h 2), (h 3), (h 4), (h 5), (h 6), (h 7), (h 8), (h 9), (h 10), (h 11), (h 12), (h 13)] rfl rfl rfl rfl rfl (by decide) (by decide) 0 rfl rfl rfl (Nat.le_of_ble_eq_true rfl) dX10_ruleIs_59 (fun u_59 h_59 => ?_) rfl
          show J l _ D ε _ _ _ (.int (nI (fig (ltr ft le ((((sp + 1) + 1) + 1) + 1)) (E 0)) - nI 1) :: _)
          refine j_istore_n EE [(3, _), (2, _), (1, _), (0, _)] dX10_ruleIs_62 rfl (Nat.lt_of_lt_of_eq (by decide) hL.symm) rfl ?_
          refine j_iconst (v := (-1)) EE dX10_ruleIs_63 (by decide) ?_
          refine j_topE (y := nI 0 - nI 1) (by decide) ?_
          refine j_istore EE [(4, _), (3, _), (2, _), (1, _), (0, _)] dX10_ruleIs_64 (Nat.lt_of_lt_of_eq (by decide) hL.symm) rfl ?_
          refine j_iconst (v := (-1)) EE dX10_ruleIs_66 (by decide) ?_
          refine j_topE (y := nI 0 - nI 1) (by decide) ?_
          refine j_istore EE [(5, _), (4, _), (3, _), (2, _), (1, _), (0, _)] dX10_ruleIs_67 (Nat.lt_of_lt_of_eq (by decide) hL.symm) rfl ?_
          refine j_aload_n EE 5 dX10_ruleIs_69 rfl rfl ?_
          refine j_V2 (n9 := 14) EE (c_X10_letter h F Q ft B Bt a1 a2 a3 a4 a5 (sA E) W M km le (((((sp + 1) + 1) + 1) + 1) + 1) ro hft (by omega) (by omega)) gX10_ruleIs_X10_letter ⟨rfl, hd_X10_letter⟩ rfl ⟨rfl, rfl⟩ ⟨by decide, by decide⟩ rfl [0, 1, 2, 3, 4, 5, 6, 7, 8, 9, 10, 11, 12, 13] rfl [] [((h 0), .inr (6, [.ref ((h 1)), .ref ((h 2)), .ref ((h 3)), .int (nI km), .ref ((h 4)), .int (nI le), .int (nI ((((((sp + 1) + 1) + 1) + 1) + 1) + 1)), .ref ((h 5)), .ref ((h 6)), .int (nI ro), .ref ((h 7)), .ref ((h 8)), .ref ((h 9)), .ref ((h 10)), .ref ((h 11)), .ref ((h 12)), .ref ((h 13))])), ((h 1), .inl (cI, 99, .inl (sA F))), ((h 2), .inl (cI, 99, .inl (sA E))), ((h 3), .inl (cI, 594, .inl (kA Q))), ((h 4), .inl (cI, 200, .inl (fun zz => nI (ft zz)))), ((h 5), .inl (cI, 12, .inl (fun zz => nI (B zz)))), ((h 6), .inl (cI, 12, .inl (fun zz => nI (Bt zz)))), ((h 7), .inl (cJ, 16, .inr (.inl W))), ((h 8), .inl (cJ, 16, .inr (.inl M))), ((h 9), .inl (cI, 9, .inl (fun zz => nI (a1 zz)))), ((h 10), .inl (cI, 9, .inl (fun zz => nI (a2 zz)))), ((h 11), .inl (cI, 198, .inl (fun zz => nI (a3 zz)))), ((h 12), .inl (cI, 9, .inl (fun zz => nI (a4 zz)))), ((h 13), .inl (cI, 9, .inl (fA a5)))] (fun _ => rfl) [] [(h 0), (h 1), (h 2), (h 3), (h 4), (h 5), (h 6), (h 7), (h 8), (h 9), (h 10), (h 11), (h 12), (h 13)] rfl rfl rfl rfl rfl (by decide) (by decide) 0 rfl rfl rfl (Nat.le_of_ble_eq_true rfl) dX10_ruleIs_70 (fun u_70 h_70 => ?_) rfl
          show J l _ D ε _ _ _ (.int (nI (ltr ft le (((((sp + 1) + 1) + 1) + 1) + 1))) :: _)
          refine j_istore EE [(6, _), (5, _), (4, _), (3, _), (2, _), (1, _), (0, _)] dX10_ruleIs_73 (Nat.lt_of_lt_of_eq (by decide) hL.symm) rfl ?_
          refine j_iload_n EE 3 dX10_ruleIs_75 rfl rfl ?_
          refine j_if_lt EE 147 dX10_ruleIs_76 (by decide) (fun c76 => ?_) (fun c76 => ?_)
          · skip
            have m76 : fig (ltr ft le ((((sp + 1) + 1) + 1) + 1)) (E 0) = 0 := (m1_lt (by have := fig_le (ltr ft le ((((sp + 1) + 1) + 1) + 1)) (E 0); omega)).mp c76
            refine j_iload_n EE 3 dX10_ruleIs_147 rfl rfl ?_
            refine j_if_lt EE 170 dX10_ruleIs_148 (by decide) (fun c148 => ?_) (fun c148 => absurd c76 c148)
            refine j_iconst (v := nI 0) EE dX10_ruleIs_170 (by decide) ?_
            have hR : riM ft le E sp = none := by
              unfold riM
              (repeat (first | rw [if_pos (by omega)] | rw [if_neg (by omega)]))
              try (unfold riT; rw [if_neg (by assumption)])
            exact j_zret EE FF (by decide) dX10_ruleIs_171 ((((((sp + 1) + 1) + 1) + 1) + 1) + 1, (sA E)) ⟨fun q hq => by rw [hR] at hq; exact absurd hq (by simp), sA_99 hE9⟩ (by rw [hR]; rfl) rfl
          · skip
            have g76 := fig_le (ltr ft le ((((sp + 1) + 1) + 1) + 1)) (E 0)
            have m76 : ¬ fig (ltr ft le ((((sp + 1) + 1) + 1) + 1)) (E 0) = 0 := fun hq => c76 ((m1_lt (by have := fig_le (ltr ft le ((((sp + 1) + 1) + 1) + 1)) (E 0); omega)).mpr hq)
            rw [show nI (fig (ltr ft le ((((sp + 1) + 1) + 1) + 1)) (E 0)) - nI 1 = nI (fig (ltr ft le ((((sp + 1) + 1) + 1) + 1)) (E 0) - 1) from pk_sub (by omega)]
            refine j_iload EE 0 dX10_ruleIs_79 rfl ?_
            refine j_bipush (v := nI 44) EE dX10_ruleIs_81 (by decide) ?_
            refine j_icmp_ne EE 147 dX10_ruleIs_83 (by decide) (fun c83 => ?_) (fun c83 => ?_)
            · skip
              have n83 : (ltr ft le (((((sp + 1) + 1) + 1) + 1) + 1)) ≠ 44 := fun hq => c83 ((nI_eq (a := (ltr ft le (((((sp + 1) + 1) + 1) + 1) + 1))) (b := 44) (by have := ltr_lt (le := le) (sp := (((((sp + 1) + 1) + 1) + 1) + 1)) hft; omega) (by have := ltr_lt (le := le) (sp := (((((sp + 1) + 1) + 1) + 1) + 1)) hft; omega)).mpr hq)
              refine j_iload_n EE 3 dX10_ruleIs_147 rfl rfl ?_
              refine j_if_lt EE 170 dX10_ruleIs_148 (by decide) (fun c148 => absurd c148 (nI_pos (by omega))) (fun c148 => ?_)
              have n148 : ¬ (fig (ltr ft le ((((sp + 1) + 1) + 1) + 1)) (E 0) - 1) < 0 := fun hq => c148 ((nI_ltI (a := (fig (ltr ft le ((((sp + 1) + 1) + 1) + 1)) (E 0) - 1)) (b := 0) (by have := fig_le (ltr ft le ((((sp + 1) + 1) + 1) + 1)) (E 0); omega) (by have := fig_le (ltr ft le ((((sp + 1) + 1) + 1) + 1)) (E 0); omega)).mpr hq)
              refine j_iload EE 0 dX10_ruleIs_151 rfl ?_
              refine j_bipush (v := nI 59) EE dX10_ruleIs_153 (by decide) ?_
              refine j_icmp_ne EE 170 dX10_ruleIs_155 (by decide) (fun c155 => ?_) (fun c155 => ?_)
              · skip
                have n155 : (ltr ft le (((((sp + 1) + 1) + 1) + 1) + 1)) ≠ 59 := fun hq => c155 ((nI_eq (a := (ltr ft le (((((sp + 1) + 1) + 1) + 1) + 1))) (b := 59) (by have := ltr_lt (le := le) (sp := (((((sp + 1) + 1) + 1) + 1) + 1)) hft; omega) (by have := ltr_lt (le := le) (sp := (((((sp + 1) + 1) + 1) + 1) + 1)) hft; omega)).mpr hq)
                refine j_iconst (v := nI 0) EE dX10_ruleIs_170 (by decide) ?_
                have hR : riM ft le E sp = none := by
                  unfold riM
                  (repeat (first | rw [if_pos (by omega)] | rw [if_neg (by omega)]))
                  try (unfold riT; rw [if_neg (by assumption)])
                exact j_zret EE FF (by decide) dX10_ruleIs_171 ((((((sp + 1) + 1) + 1) + 1) + 1) + 1, (sA E)) ⟨fun q hq => by rw [hR] at hq; exact absurd hq (by simp), sA_99 hE9⟩ (by rw [hR]; rfl) rfl
              · skip
                have n155 : (ltr ft le (((((sp + 1) + 1) + 1) + 1) + 1)) = 59 := (nI_eq (a := (ltr ft le (((((sp + 1) + 1) + 1) + 1) + 1))) (b := 59) (by have := ltr_lt (le := le) (sp := (((((sp + 1) + 1) + 1) + 1) + 1)) hft; omega) (by have := ltr_lt (le := le) (sp := (((((sp + 1) + 1) + 1) + 1) + 1)) hft; omega)).mp c155
                refine j_aload_n EE 6 dX10_ruleIs_158 rfl rfl ?_
                refine j_get (T := TX10) EE iw_X10_ruleIs_X10 0 rfl rfl 1 (by decide) lk_X10_ruleIs_13 rfl dX10_ruleIs_159 ?_
                refine j_iload_n EE 5 dX10_ruleIs_162 rfl rfl ?_
                refine j_iload_n EE 4 dX10_ruleIs_163 rfl rfl ?_
                refine j_S2 (n9 := 14) EE (c_X10_hasRoom (h 2) E (fig (ltr ft le sp) (E 0) - 1) (fig (ltr ft le ((sp + 1) + 1)) (E 1) - 1) (by omega) hEb (by have := fig_le (ltr ft le sp) (E 0); omega) (by have := fig_le (ltr ft le ((sp + 1) + 1)) (E 1); omega)) gX10_ruleIs_X10_hasRoom hd_X10_hasRoom rfl ⟨rfl, rfl⟩ ⟨by decide, by decide⟩ rfl [2] rfl [0, 1, 3, 4, 5, 6, 7, 8, 9, 10, 11, 12, 13] [((h 0), .inr (6, [.ref ((h 1)), .ref ((h 2)), .ref ((h 3)), .int (nI km), .ref ((h 4)), .int (nI le), .int (nI ((((((sp + 1) + 1) + 1) + 1) + 1) + 1)), .ref ((h 5)), .ref ((h 6)), .int (nI ro), .ref ((h 7)), .ref ((h 8)), .ref ((h 9)), .ref ((h 10)), .ref ((h 11)), .ref ((h 12)), .ref ((h 13))])), ((h 1), .inl (cI, 99, .inl (sA F))), ((h 2), .inl (cI, 99, .inl (sA E))), ((h 3), .inl (cI, 594, .inl (kA Q))), ((h 4), .inl (cI, 200, .inl (fun zz => nI (ft zz)))), ((h 5), .inl (cI, 12, .inl (fun zz => nI (B zz)))), ((h 6), .inl (cI, 12, .inl (fun zz => nI (Bt zz)))), ((h 7), .inl (cJ, 16, .inr (.inl W))), ((h 8), .inl (cJ, 16, .inr (.inl M))), ((h 9), .inl (cI, 9, .inl (fun zz => nI (a1 zz)))), ((h 10), .inl (cI, 9, .inl (fun zz => nI (a2 zz)))), ((h 11), .inl (cI, 198, .inl (fun zz => nI (a3 zz)))), ((h 12), .inl (cI, 9, .inl (fun zz => nI (a4 zz)))), ((h 13), .inl (cI, 9, .inl (fA a5)))] (fun _ => rfl) [((h 0), .inr (6, [.ref ((h 1)), .ref ((h 2)), .ref ((h 3)), .int (nI km), .ref ((h 4)), .int (nI le), .int (nI ((((((sp + 1) + 1) + 1) + 1) + 1) + 1)), .ref ((h 5)), .ref ((h 6)), .int (nI ro), .ref ((h 7)), .ref ((h 8)), .ref ((h 9)), .ref ((h 10)), .ref ((h 11)), .ref ((h 12)), .ref ((h 13))])), ((h 1), .inl (cI, 99, .inl (sA F))), ((h 3), .inl (cI, 594, .inl (kA Q))), ((h 4), .inl (cI, 200, .inl (fun zz => nI (ft zz)))), ((h 5), .inl (cI, 12, .inl (fun zz => nI (B zz)))), ((h 6), .inl (cI, 12, .inl (fun zz => nI (Bt zz)))), ((h 7), .inl (cJ, 16, .inr (.inl W))), ((h 8), .inl (cJ, 16, .inr (.inl M))), ((h 9), .inl (cI, 9, .inl (fun zz => nI (a1 zz)))), ((h 10), .inl (cI, 9, .inl (fun zz => nI (a2 zz)))), ((h 11), .inl (cI, 198, .inl (fun zz => nI (a3 zz)))), ((h 12), .inl (cI, 9, .inl (fun zz => nI (a4 zz)))), ((h 13), .inl (cI, 9, .inl (fA a5)))] [(h 0), (h 1), (h 2), (h 3), (h 4), (h 5), (h 6), (h 7), (h 8), (h 9), (h 10), (h 11), (h 12), (h 13)] rfl rfl rfl rfl rfl (by decide) (by decide) rfl (Nat.le_of_ble_eq_true rfl) dX10_ruleIs_164 (fun u_164 h_164 => ?_) rfl
                show J l _ D ε _ _ _ (.int (nI (b2n (decide (hrC E (fig (ltr ft le sp) (E 0) - 1) (fig (ltr ft le ((sp + 1) + 1)) (E 1) - 1) (E 4) < 3 ∧ E 4 < 16)))) :: _)
                refine j_if_ne EE 172 dX10_ruleIs_167 (by decide) (fun c167 => ?_) (fun c167 => ?_)
                · skip
                  have n167 : (b2n (decide (hrC E (fig (ltr ft le sp) (E 0) - 1) (fig (ltr ft le ((sp + 1) + 1)) (E 1) - 1) (E 4) < 3 ∧ E 4 < 16))) ≠ 0 := fun hq => c167 ((nI_eq (a := (b2n (decide (hrC E (fig (ltr ft le sp) (E 0) - 1) (fig (ltr ft le ((sp + 1) + 1)) (E 1) - 1) (E 4) < 3 ∧ E 4 < 16)))) (b := 0) (by have := b2n_lt (decide (hrC E (fig (ltr ft le sp) (E 0) - 1) (fig (ltr ft le ((sp + 1) + 1)) (E 1) - 1) (E 4) < 3 ∧ E 4 < 16)); omega) (by have := b2n_lt (decide (hrC E (fig (ltr ft le sp) (E 0) - 1) (fig (ltr ft le ((sp + 1) + 1)) (E 1) - 1) (E 4) < 3 ∧ E 4 < 16)); omega)).mpr hq)
                  have h16 := b2d_1 n167
                  refine j_aload_n EE 6 dX10_ruleIs_172 rfl rfl ?_
                  refine j_get (T := TX10) EE iw_X10_ruleIs_X10 0 rfl rfl 1 (by decide) lk_X10_ruleIs_13 rfl dX10_ruleIs_173 ?_
                  refine j_iload_n EE 5 dX10_ruleIs_176 rfl rfl ?_
                  refine j_iload_n EE 4 dX10_ruleIs_177 rfl rfl ?_
                  refine j_iload_n EE 3 dX10_ruleIs_178 rfl rfl ?_
                  refine j_iload EE 2 dX10_ruleIs_179 rfl ?_
                  refine j_iload EE 1 dX10_ruleIs_181 rfl ?_
                  refine j_S2 (n9 := 14) EE (c_X10_rule (h 2) E (fig (ltr ft le sp) (E 0) - 1) (fig (ltr ft le ((sp + 1) + 1)) (E 1) - 1) (fig (ltr ft le ((((sp + 1) + 1) + 1) + 1)) (E 0) - 1) 0 0 (by omega)) gX10_ruleIs_X10_rule hd_X10_rule rfl ⟨rfl, rfl⟩ ⟨by decide, by decide⟩ rfl [2] rfl [0, 1, 3, 4, 5, 6, 7, 8, 9, 10, 11, 12, 13] [((h 0), .inr (6, [.ref ((h 1)), .ref ((h 2)), .ref ((h 3)), .int (nI km), .ref ((h 4)), .int (nI le), .int (nI ((((((sp + 1) + 1) + 1) + 1) + 1) + 1)), .ref ((h 5)), .ref ((h 6)), .int (nI ro), .ref ((h 7)), .ref ((h 8)), .ref ((h 9)), .ref ((h 10)), .ref ((h 11)), .ref ((h 12)), .ref ((h 13))])), ((h 1), .inl (cI, 99, .inl (sA F))), ((h 2), .inl (cI, 99, .inl (sA (ruF E (fig (ltr ft le sp) (E 0) - 1) (fig (ltr ft le ((sp + 1) + 1)) (E 1) - 1) (fig (ltr ft le ((((sp + 1) + 1) + 1) + 1)) (E 0) - 1) 0 0)))), ((h 3), .inl (cI, 594, .inl (kA Q))), ((h 4), .inl (cI, 200, .inl (fun zz => nI (ft zz)))), ((h 5), .inl (cI, 12, .inl (fun zz => nI (B zz)))), ((h 6), .inl (cI, 12, .inl (fun zz => nI (Bt zz)))), ((h 7), .inl (cJ, 16, .inr (.inl W))), ((h 8), .inl (cJ, 16, .inr (.inl M))), ((h 9), .inl (cI, 9, .inl (fun zz => nI (a1 zz)))), ((h 10), .inl (cI, 9, .inl (fun zz => nI (a2 zz)))), ((h 11), .inl (cI, 198, .inl (fun zz => nI (a3 zz)))), ((h 12), .inl (cI, 9, .inl (fun zz => nI (a4 zz)))), ((h 13), .inl (cI, 9, .inl (fA a5)))] (fun _ => rfl) [((h 0), .inr (6, [.ref ((h 1)), .ref ((h 2)), .ref ((h 3)), .int (nI km), .ref ((h 4)), .int (nI le), .int (nI ((((((sp + 1) + 1) + 1) + 1) + 1) + 1)), .ref ((h 5)), .ref ((h 6)), .int (nI ro), .ref ((h 7)), .ref ((h 8)), .ref ((h 9)), .ref ((h 10)), .ref ((h 11)), .ref ((h 12)), .ref ((h 13))])), ((h 1), .inl (cI, 99, .inl (sA F))), ((h 3), .inl (cI, 594, .inl (kA Q))), ((h 4), .inl (cI, 200, .inl (fun zz => nI (ft zz)))), ((h 5), .inl (cI, 12, .inl (fun zz => nI (B zz)))), ((h 6), .inl (cI, 12, .inl (fun zz => nI (Bt zz)))), ((h 7), .inl (cJ, 16, .inr (.inl W))), ((h 8), .inl (cJ, 16, .inr (.inl M))), ((h 9), .inl (cI, 9, .inl (fun zz => nI (a1 zz)))), ((h 10), .inl (cI, 9, .inl (fun zz => nI (a2 zz)))), ((h 11), .inl (cI, 198, .inl (fun zz => nI (a3 zz)))), ((h 12), .inl (cI, 9, .inl (fun zz => nI (a4 zz)))), ((h 13), .inl (cI, 9, .inl (fA a5)))] [(h 0), (h 1), (h 2), (h 3), (h 4), (h 5), (h 6), (h 7), (h 8), (h 9), (h 10), (h 11), (h 12), (h 13)] rfl rfl rfl rfl rfl (by decide) (by decide) rfl (Nat.le_of_ble_eq_true rfl) dX10_ruleIs_183 (fun u_183 h_183 => ?_) rfl
                  refine j_iconst (v := nI 1) EE dX10_ruleIs_186 (by decide) ?_
                  have hR : riM ft le E sp = some ((((((sp + 1) + 1) + 1) + 1) + 1) + 1, ruF E (fig (ltr ft le sp) (E 0) - 1) (fig (ltr ft le ((sp + 1) + 1)) (E 1) - 1) (fig (ltr ft le ((((sp + 1) + 1) + 1) + 1)) (E 0) - 1) 0 0) := by
                    unfold riM
                    (repeat (first | rw [if_pos (by omega)] | rw [if_neg (by omega)]))
                    unfold riT
                    rw [if_pos h16]
                  exact j_zret EE FF (by decide) dX10_ruleIs_187 ((((((sp + 1) + 1) + 1) + 1) + 1) + 1, (sA (ruF E (fig (ltr ft le sp) (E 0) - 1) (fig (ltr ft le ((sp + 1) + 1)) (E 1) - 1) (fig (ltr ft le ((((sp + 1) + 1) + 1) + 1)) (E 0) - 1) 0 0))) ⟨fun q hq => by rw [hR] at hq; rw [← Option.some.inj hq], sA_99 (ru_99 (by omega) hE9)⟩ (by rw [hR]; rfl) rfl
                · skip
                  have n167 : (b2n (decide (hrC E (fig (ltr ft le sp) (E 0) - 1) (fig (ltr ft le ((sp + 1) + 1)) (E 1) - 1) (E 4) < 3 ∧ E 4 < 16))) = 0 := (nI_eq (a := (b2n (decide (hrC E (fig (ltr ft le sp) (E 0) - 1) (fig (ltr ft le ((sp + 1) + 1)) (E 1) - 1) (E 4) < 3 ∧ E 4 < 16)))) (b := 0) (by have := b2n_lt (decide (hrC E (fig (ltr ft le sp) (E 0) - 1) (fig (ltr ft le ((sp + 1) + 1)) (E 1) - 1) (E 4) < 3 ∧ E 4 < 16)); omega) (by have := b2n_lt (decide (hrC E (fig (ltr ft le sp) (E 0) - 1) (fig (ltr ft le ((sp + 1) + 1)) (E 1) - 1) (E 4) < 3 ∧ E 4 < 16)); omega)).mp c167
                  have h16 := b2d_0 n167
                  refine j_iconst (v := nI 0) EE dX10_ruleIs_170 (by decide) ?_
                  have hR : riM ft le E sp = none := by
                    unfold riM
                    (repeat (first | rw [if_pos (by omega)] | rw [if_neg (by omega)]))
                    try (unfold riT; rw [if_neg (by assumption)])
                  exact j_zret EE FF (by decide) dX10_ruleIs_171 ((((((sp + 1) + 1) + 1) + 1) + 1) + 1, (sA E)) ⟨fun q hq => by rw [hR] at hq; exact absurd hq (by simp), sA_99 hE9⟩ (by rw [hR]; rfl) rfl
            · skip
              have n83 : (ltr ft le (((((sp + 1) + 1) + 1) + 1) + 1)) = 44 := (nI_eq (a := (ltr ft le (((((sp + 1) + 1) + 1) + 1) + 1))) (b := 44) (by have := ltr_lt (le := le) (sp := (((((sp + 1) + 1) + 1) + 1) + 1)) hft; omega) (by have := ltr_lt (le := le) (sp := (((((sp + 1) + 1) + 1) + 1) + 1)) hft; omega)).mp c83
              refine j_aload_n EE 6 dX10_ruleIs_86 rfl rfl ?_
              refine j_aload_n EE 6 dX10_ruleIs_87 rfl rfl ?_
              refine j_get (T := TX10) EE iw_X10_ruleIs_X10 0 rfl rfl 1 (by decide) lk_X10_ruleIs_13 rfl dX10_ruleIs_88 ?_
              refine j_iconst (v := nI 1) EE dX10_ruleIs_91 (by decide) ?_
              refine j_iald EE 2 0 rfl rfl (vp_in_nI (n := 1) (by omega) (by decide)) dX10_ruleIs_92 ?_
              refine j_topE (congrArg (sA E) (nI_clamp (n := 1) (by omega))) ?_
              refine j_topE (y := nI (E 1)) (sA_n (by omega)) ?_
              refine j_V2 (n9 := 14) EE (c_X10_figure h F Q ft B Bt a1 a2 a3 a4 a5 (sA E) W M km le ((((((sp + 1) + 1) + 1) + 1) + 1) + 1) ro (E 1) hft (by omega) (by omega) (by omega)) gX10_ruleIs_X10_figure ⟨rfl, hd_X10_figure⟩ rfl ⟨rfl, rfl⟩ ⟨by decide, by decide⟩ rfl [0, 1, 2, 3, 4, 5, 6, 7, 8, 9, 10, 11, 12, 13] rfl [] [((h 0), .inr (6, [.ref ((h 1)), .ref ((h 2)), .ref ((h 3)), .int (nI km), .ref ((h 4)), .int (nI le), .int (nI (((((((sp + 1) + 1) + 1) + 1) + 1) + 1) + 1)), .ref ((h 5)), .ref ((h 6)), .int (nI ro), .ref ((h 7)), .ref ((h 8)), .ref ((h 9)), .ref ((h 10)), .ref ((h 11)), .ref ((h 12)), .ref ((h 13))])), ((h 1), .inl (cI, 99, .inl (sA F))), ((h 2), .inl (cI, 99, .inl (sA E))), ((h 3), .inl (cI, 594, .inl (kA Q))), ((h 4), .inl (cI, 200, .inl (fun zz => nI (ft zz)))), ((h 5), .inl (cI, 12, .inl (fun zz => nI (B zz)))), ((h 6), .inl (cI, 12, .inl (fun zz => nI (Bt zz)))), ((h 7), .inl (cJ, 16, .inr (.inl W))), ((h 8), .inl (cJ, 16, .inr (.inl M))), ((h 9), .inl (cI, 9, .inl (fun zz => nI (a1 zz)))), ((h 10), .inl (cI, 9, .inl (fun zz => nI (a2 zz)))), ((h 11), .inl (cI, 198, .inl (fun zz => nI (a3 zz)))), ((h 12), .inl (cI, 9, .inl (fun zz => nI (a4 zz)))), ((h 13), .inl (cI, 9, .inl (fA a5)))] (fun _ => rfl) [] [(h 0), (h 1), (h 2), (h 3), (h 4), (h 5), (h 6), (h 7), (h 8), (h 9), (h 10), (h 11), (h 12), (h 13)] rfl rfl rfl rfl rfl (by decide) (by decide) 0 rfl rfl rfl (Nat.le_of_ble_eq_true rfl) dX10_ruleIs_93 (fun u_93 h_93 => ?_) rfl
              show J l _ D ε _ _ _ (.int (nI (fig (ltr ft le ((((((sp + 1) + 1) + 1) + 1) + 1) + 1)) (E 1)) - nI 1) :: _)
              refine j_istore EE [(4, _), (6, _), (5, _), (3, _), (2, _), (1, _), (0, _)] dX10_ruleIs_96 (Nat.lt_of_lt_of_eq (by decide) hL.symm) rfl ?_
              refine j_iload EE 0 dX10_ruleIs_98 rfl ?_
              refine j_if_ge EE 107 dX10_ruleIs_100 (by decide) (fun c100 => ?_) (fun c100 => ?_)
              · skip
                have m100 : ¬ fig (ltr ft le ((((((sp + 1) + 1) + 1) + 1) + 1) + 1)) (E 1) = 0 := (m1_ge (by have := fig_le (ltr ft le ((((((sp + 1) + 1) + 1) + 1) + 1) + 1)) (E 1); omega)).mp c100
                refine j_aload_n EE 6 dX10_ruleIs_107 rfl rfl ?_
                refine j_V2 (n9 := 14) EE (c_X10_letter h F Q ft B Bt a1 a2 a3 a4 a5 (sA E) W M km le (((((((sp + 1) + 1) + 1) + 1) + 1) + 1) + 1) ro hft (by omega) (by omega)) gX10_ruleIs_X10_letter ⟨rfl, hd_X10_letter⟩ rfl ⟨rfl, rfl⟩ ⟨by decide, by decide⟩ rfl [0, 1, 2, 3, 4, 5, 6, 7, 8, 9, 10, 11, 12, 13] rfl [] [((h 0), .inr (6, [.ref ((h 1)), .ref ((h 2)), .ref ((h 3)), .int (nI km), .ref ((h 4)), .int (nI le), .int (nI ((((((((sp + 1) + 1) + 1) + 1) + 1) + 1) + 1) + 1)), .ref ((h 5)), .ref ((h 6)), .int (nI ro), .ref ((h 7)), .ref ((h 8)), .ref ((h 9)), .ref ((h 10)), .ref ((h 11)), .ref ((h 12)), .ref ((h 13))])), ((h 1), .inl (cI, 99, .inl (sA F))), ((h 2), .inl (cI, 99, .inl (sA E))), ((h 3), .inl (cI, 594, .inl (kA Q))), ((h 4), .inl (cI, 200, .inl (fun zz => nI (ft zz)))), ((h 5), .inl (cI, 12, .inl (fun zz => nI (B zz)))), ((h 6), .inl (cI, 12, .inl (fun zz => nI (Bt zz)))), ((h 7), .inl (cJ, 16, .inr (.inl W))), ((h 8), .inl (cJ, 16, .inr (.inl M))), ((h 9), .inl (cI, 9, .inl (fun zz => nI (a1 zz)))), ((h 10), .inl (cI, 9, .inl (fun zz => nI (a2 zz)))), ((h 11), .inl (cI, 198, .inl (fun zz => nI (a3 zz)))), ((h 12), .inl (cI, 9, .inl (fun zz => nI (a4 zz)))), ((h 13), .inl (cI, 9, .inl (fA a5)))] (fun _ => rfl) [] [(h 0), (h 1), (h 2), (h 3), (h 4), (h 5), (h 6), (h 7), (h 8), (h 9), (h 10), (h 11), (h 12), (h 13)] rfl rfl rfl rfl rfl (by decide) (by decide) 0 rfl rfl rfl (Nat.le_of_ble_eq_true rfl) dX10_ruleIs_108 (fun u_108 h_108 => ?_) rfl
                show J l _ D ε _ _ _ (.int (nI (ltr ft le (((((((sp + 1) + 1) + 1) + 1) + 1) + 1) + 1))) :: _)
                refine j_istore EE [(6, _), (4, _), (5, _), (3, _), (2, _), (1, _), (0, _)] dX10_ruleIs_111 (Nat.lt_of_lt_of_eq (by decide) hL.symm) rfl ?_
                refine j_iload EE 0 dX10_ruleIs_113 rfl ?_
                refine j_bipush (v := nI 44) EE dX10_ruleIs_115 (by decide) ?_
                refine j_icmp_ne EE 147 dX10_ruleIs_117 (by decide) (fun c117 => ?_) (fun c117 => ?_)
                · skip
                  have n117 : (ltr ft le (((((((sp + 1) + 1) + 1) + 1) + 1) + 1) + 1)) ≠ 44 := fun hq => c117 ((nI_eq (a := (ltr ft le (((((((sp + 1) + 1) + 1) + 1) + 1) + 1) + 1))) (b := 44) (by have := ltr_lt (le := le) (sp := (((((((sp + 1) + 1) + 1) + 1) + 1) + 1) + 1)) hft; omega) (by have := ltr_lt (le := le) (sp := (((((((sp + 1) + 1) + 1) + 1) + 1) + 1) + 1)) hft; omega)).mpr hq)
                  refine j_iload_n EE 3 dX10_ruleIs_147 rfl rfl ?_
                  refine j_if_lt EE 170 dX10_ruleIs_148 (by decide) (fun c148 => absurd c148 (nI_pos (by omega))) (fun c148 => ?_)
                  have n148 : ¬ (fig (ltr ft le ((((sp + 1) + 1) + 1) + 1)) (E 0) - 1) < 0 := fun hq => c148 ((nI_ltI (a := (fig (ltr ft le ((((sp + 1) + 1) + 1) + 1)) (E 0) - 1)) (b := 0) (by have := fig_le (ltr ft le ((((sp + 1) + 1) + 1) + 1)) (E 0); omega) (by have := fig_le (ltr ft le ((((sp + 1) + 1) + 1) + 1)) (E 0); omega)).mpr hq)
                  refine j_iload EE 0 dX10_ruleIs_151 rfl ?_
                  refine j_bipush (v := nI 59) EE dX10_ruleIs_153 (by decide) ?_
                  refine j_icmp_ne EE 170 dX10_ruleIs_155 (by decide) (fun c155 => ?_) (fun c155 => ?_)
                  · skip
                    have n155 : (ltr ft le (((((((sp + 1) + 1) + 1) + 1) + 1) + 1) + 1)) ≠ 59 := fun hq => c155 ((nI_eq (a := (ltr ft le (((((((sp + 1) + 1) + 1) + 1) + 1) + 1) + 1))) (b := 59) (by have := ltr_lt (le := le) (sp := (((((((sp + 1) + 1) + 1) + 1) + 1) + 1) + 1)) hft; omega) (by have := ltr_lt (le := le) (sp := (((((((sp + 1) + 1) + 1) + 1) + 1) + 1) + 1)) hft; omega)).mpr hq)
                    refine j_iconst (v := nI 0) EE dX10_ruleIs_170 (by decide) ?_
                    have hR : riM ft le E sp = none := by
                      unfold riM
                      (repeat (first | rw [if_pos (by omega)] | rw [if_neg (by omega)]))
                      try (unfold riT; rw [if_neg (by assumption)])
                    exact j_zret EE FF (by decide) dX10_ruleIs_171 ((((((((sp + 1) + 1) + 1) + 1) + 1) + 1) + 1) + 1, (sA E)) ⟨fun q hq => by rw [hR] at hq; exact absurd hq (by simp), sA_99 hE9⟩ (by rw [hR]; rfl) rfl
                  · skip
                    have n155 : (ltr ft le (((((((sp + 1) + 1) + 1) + 1) + 1) + 1) + 1)) = 59 := (nI_eq (a := (ltr ft le (((((((sp + 1) + 1) + 1) + 1) + 1) + 1) + 1))) (b := 59) (by have := ltr_lt (le := le) (sp := (((((((sp + 1) + 1) + 1) + 1) + 1) + 1) + 1)) hft; omega) (by have := ltr_lt (le := le) (sp := (((((((sp + 1) + 1) + 1) + 1) + 1) + 1) + 1)) hft; omega)).mp c155
                    refine j_aload_n EE 6 dX10_ruleIs_158 rfl rfl ?_
                    refine j_get (T := TX10) EE iw_X10_ruleIs_X10 0 rfl rfl 1 (by decide) lk_X10_ruleIs_13 rfl dX10_ruleIs_159 ?_
                    refine j_iload_n EE 5 dX10_ruleIs_162 rfl rfl ?_
                    refine j_iload_n EE 4 dX10_ruleIs_163 rfl rfl ?_
                    refine j_S2 (n9 := 14) EE (c_X10_hasRoom (h 2) E (fig (ltr ft le sp) (E 0) - 1) (fig (ltr ft le ((sp + 1) + 1)) (E 1) - 1) (by omega) hEb (by have := fig_le (ltr ft le sp) (E 0); omega) (by have := fig_le (ltr ft le ((sp + 1) + 1)) (E 1); omega)) gX10_ruleIs_X10_hasRoom hd_X10_hasRoom rfl ⟨rfl, rfl⟩ ⟨by decide, by decide⟩ rfl [2] rfl [0, 1, 3, 4, 5, 6, 7, 8, 9, 10, 11, 12, 13] [((h 0), .inr (6, [.ref ((h 1)), .ref ((h 2)), .ref ((h 3)), .int (nI km), .ref ((h 4)), .int (nI le), .int (nI ((((((((sp + 1) + 1) + 1) + 1) + 1) + 1) + 1) + 1)), .ref ((h 5)), .ref ((h 6)), .int (nI ro), .ref ((h 7)), .ref ((h 8)), .ref ((h 9)), .ref ((h 10)), .ref ((h 11)), .ref ((h 12)), .ref ((h 13))])), ((h 1), .inl (cI, 99, .inl (sA F))), ((h 2), .inl (cI, 99, .inl (sA E))), ((h 3), .inl (cI, 594, .inl (kA Q))), ((h 4), .inl (cI, 200, .inl (fun zz => nI (ft zz)))), ((h 5), .inl (cI, 12, .inl (fun zz => nI (B zz)))), ((h 6), .inl (cI, 12, .inl (fun zz => nI (Bt zz)))), ((h 7), .inl (cJ, 16, .inr (.inl W))), ((h 8), .inl (cJ, 16, .inr (.inl M))), ((h 9), .inl (cI, 9, .inl (fun zz => nI (a1 zz)))), ((h 10), .inl (cI, 9, .inl (fun zz => nI (a2 zz)))), ((h 11), .inl (cI, 198, .inl (fun zz => nI (a3 zz)))), ((h 12), .inl (cI, 9, .inl (fun zz => nI (a4 zz)))), ((h 13), .inl (cI, 9, .inl (fA a5)))] (fun _ => rfl) [((h 0), .inr (6, [.ref ((h 1)), .ref ((h 2)), .ref ((h 3)), .int (nI km), .ref ((h 4)), .int (nI le), .int (nI ((((((((sp + 1) + 1) + 1) + 1) + 1) + 1) + 1) + 1)), .ref ((h 5)), .ref ((h 6)), .int (nI ro), .ref ((h 7)), .ref ((h 8)), .ref ((h 9)), .ref ((h 10)), .ref ((h 11)), .ref ((h 12)), .ref ((h 13))])), ((h 1), .inl (cI, 99, .inl (sA F))), ((h 3), .inl (cI, 594, .inl (kA Q))), ((h 4), .inl (cI, 200, .inl (fun zz => nI (ft zz)))), ((h 5), .inl (cI, 12, .inl (fun zz => nI (B zz)))), ((h 6), .inl (cI, 12, .inl (fun zz => nI (Bt zz)))), ((h 7), .inl (cJ, 16, .inr (.inl W))), ((h 8), .inl (cJ, 16, .inr (.inl M))), ((h 9), .inl (cI, 9, .inl (fun zz => nI (a1 zz)))), ((h 10), .inl (cI, 9, .inl (fun zz => nI (a2 zz)))), ((h 11), .inl (cI, 198, .inl (fun zz => nI (a3 zz)))), ((h 12), .inl (cI, 9, .inl (fun zz => nI (a4 zz)))), ((h 13), .inl (cI, 9, .inl (fA a5)))] [(h 0), (h 1), (h 2), (h 3), (h 4), (h 5), (h 6), (h 7), (h 8), (h 9), (h 10), (h 11), (h 12), (h 13)] rfl rfl rfl rfl rfl (by decide) (by decide) rfl (Nat.le_of_ble_eq_true rfl) dX10_ruleIs_164 (fun u_164 h_164 => ?_) rfl
                    show J l _ D ε _ _ _ (.int (nI (b2n (decide (hrC E (fig (ltr ft le sp) (E 0) - 1) (fig (ltr ft le ((sp + 1) + 1)) (E 1) - 1) (E 4) < 3 ∧ E 4 < 16)))) :: _)
                    refine j_if_ne EE 172 dX10_ruleIs_167 (by decide) (fun c167 => ?_) (fun c167 => ?_)
                    · skip
                      have n167 : (b2n (decide (hrC E (fig (ltr ft le sp) (E 0) - 1) (fig (ltr ft le ((sp + 1) + 1)) (E 1) - 1) (E 4) < 3 ∧ E 4 < 16))) ≠ 0 := fun hq => c167 ((nI_eq (a := (b2n (decide (hrC E (fig (ltr ft le sp) (E 0) - 1) (fig (ltr ft le ((sp + 1) + 1)) (E 1) - 1) (E 4) < 3 ∧ E 4 < 16)))) (b := 0) (by have := b2n_lt (decide (hrC E (fig (ltr ft le sp) (E 0) - 1) (fig (ltr ft le ((sp + 1) + 1)) (E 1) - 1) (E 4) < 3 ∧ E 4 < 16)); omega) (by have := b2n_lt (decide (hrC E (fig (ltr ft le sp) (E 0) - 1) (fig (ltr ft le ((sp + 1) + 1)) (E 1) - 1) (E 4) < 3 ∧ E 4 < 16)); omega)).mpr hq)
                      have h16 := b2d_1 n167
                      refine j_aload_n EE 6 dX10_ruleIs_172 rfl rfl ?_
                      refine j_get (T := TX10) EE iw_X10_ruleIs_X10 0 rfl rfl 1 (by decide) lk_X10_ruleIs_13 rfl dX10_ruleIs_173 ?_
                      refine j_iload_n EE 5 dX10_ruleIs_176 rfl rfl ?_
                      refine j_iload_n EE 4 dX10_ruleIs_177 rfl rfl ?_
                      refine j_iload_n EE 3 dX10_ruleIs_178 rfl rfl ?_
                      refine j_iload EE 1 dX10_ruleIs_179 rfl ?_
                      refine j_iload EE 2 dX10_ruleIs_181 rfl ?_
                      refine j_S2 (n9 := 14) EE (c_X10_rule (h 2) E (fig (ltr ft le sp) (E 0) - 1) (fig (ltr ft le ((sp + 1) + 1)) (E 1) - 1) (fig (ltr ft le ((((sp + 1) + 1) + 1) + 1)) (E 0) - 1) (fig (ltr ft le ((((((sp + 1) + 1) + 1) + 1) + 1) + 1)) (E 1)) 0 (by omega)) gX10_ruleIs_X10_rule hd_X10_rule rfl ⟨rfl, rfl⟩ ⟨by decide, by decide⟩ rfl [2] rfl [0, 1, 3, 4, 5, 6, 7, 8, 9, 10, 11, 12, 13] [((h 0), .inr (6, [.ref ((h 1)), .ref ((h 2)), .ref ((h 3)), .int (nI km), .ref ((h 4)), .int (nI le), .int (nI ((((((((sp + 1) + 1) + 1) + 1) + 1) + 1) + 1) + 1)), .ref ((h 5)), .ref ((h 6)), .int (nI ro), .ref ((h 7)), .ref ((h 8)), .ref ((h 9)), .ref ((h 10)), .ref ((h 11)), .ref ((h 12)), .ref ((h 13))])), ((h 1), .inl (cI, 99, .inl (sA F))), ((h 2), .inl (cI, 99, .inl (sA (ruF E (fig (ltr ft le sp) (E 0) - 1) (fig (ltr ft le ((sp + 1) + 1)) (E 1) - 1) (fig (ltr ft le ((((sp + 1) + 1) + 1) + 1)) (E 0) - 1) (fig (ltr ft le ((((((sp + 1) + 1) + 1) + 1) + 1) + 1)) (E 1)) 0)))), ((h 3), .inl (cI, 594, .inl (kA Q))), ((h 4), .inl (cI, 200, .inl (fun zz => nI (ft zz)))), ((h 5), .inl (cI, 12, .inl (fun zz => nI (B zz)))), ((h 6), .inl (cI, 12, .inl (fun zz => nI (Bt zz)))), ((h 7), .inl (cJ, 16, .inr (.inl W))), ((h 8), .inl (cJ, 16, .inr (.inl M))), ((h 9), .inl (cI, 9, .inl (fun zz => nI (a1 zz)))), ((h 10), .inl (cI, 9, .inl (fun zz => nI (a2 zz)))), ((h 11), .inl (cI, 198, .inl (fun zz => nI (a3 zz)))), ((h 12), .inl (cI, 9, .inl (fun zz => nI (a4 zz)))), ((h 13), .inl (cI, 9, .inl (fA a5)))] (fun _ => rfl) [((h 0), .inr (6, [.ref ((h 1)), .ref ((h 2)), .ref ((h 3)), .int (nI km), .ref ((h 4)), .int (nI le), .int (nI ((((((((sp + 1) + 1) + 1) + 1) + 1) + 1) + 1) + 1)), .ref ((h 5)), .ref ((h 6)), .int (nI ro), .ref ((h 7)), .ref ((h 8)), .ref ((h 9)), .ref ((h 10)), .ref ((h 11)), .ref ((h 12)), .ref ((h 13))])), ((h 1), .inl (cI, 99, .inl (sA F))), ((h 3), .inl (cI, 594, .inl (kA Q))), ((h 4), .inl (cI, 200, .inl (fun zz => nI (ft zz)))), ((h 5), .inl (cI, 12, .inl (fun zz => nI (B zz)))), ((h 6), .inl (cI, 12, .inl (fun zz => nI (Bt zz)))), ((h 7), .inl (cJ, 16, .inr (.inl W))), ((h 8), .inl (cJ, 16, .inr (.inl M))), ((h 9), .inl (cI, 9, .inl (fun zz => nI (a1 zz)))), ((h 10), .inl (cI, 9, .inl (fun zz => nI (a2 zz)))), ((h 11), .inl (cI, 198, .inl (fun zz => nI (a3 zz)))), ((h 12), .inl (cI, 9, .inl (fun zz => nI (a4 zz)))), ((h 13), .inl (cI, 9, .inl (fA a5)))] [(h 0), (h 1), (h 2), (h 3), (h 4), (h 5), (h 6), (h 7), (h 8), (h 9), (h 10), (h 11), (h 12), (h 13)] rfl rfl rfl rfl rfl (by decide) (by decide) rfl (Nat.le_of_ble_eq_true rfl) dX10_ruleIs_183 (fun u_183 h_183 => ?_) rfl
                      refine j_iconst (v := nI 1) EE dX10_ruleIs_186 (by decide) ?_
                      have hR : riM ft le E sp = some ((((((((sp + 1) + 1) + 1) + 1) + 1) + 1) + 1) + 1, ruF E (fig (ltr ft le sp) (E 0) - 1) (fig (ltr ft le ((sp + 1) + 1)) (E 1) - 1) (fig (ltr ft le ((((sp + 1) + 1) + 1) + 1)) (E 0) - 1) (fig (ltr ft le ((((((sp + 1) + 1) + 1) + 1) + 1) + 1)) (E 1)) 0) := by
                        unfold riM
                        (repeat (first | rw [if_pos (by omega)] | rw [if_neg (by omega)]))
                        unfold riT
                        rw [if_pos h16]
                      exact j_zret EE FF (by decide) dX10_ruleIs_187 ((((((((sp + 1) + 1) + 1) + 1) + 1) + 1) + 1) + 1, (sA (ruF E (fig (ltr ft le sp) (E 0) - 1) (fig (ltr ft le ((sp + 1) + 1)) (E 1) - 1) (fig (ltr ft le ((((sp + 1) + 1) + 1) + 1)) (E 0) - 1) (fig (ltr ft le ((((((sp + 1) + 1) + 1) + 1) + 1) + 1)) (E 1)) 0))) ⟨fun q hq => by rw [hR] at hq; rw [← Option.some.inj hq], sA_99 (ru_99 (by omega) hE9)⟩ (by rw [hR]; rfl) rfl
                    · skip
                      have n167 : (b2n (decide (hrC E (fig (ltr ft le sp) (E 0) - 1) (fig (ltr ft le ((sp + 1) + 1)) (E 1) - 1) (E 4) < 3 ∧ E 4 < 16))) = 0 := (nI_eq (a := (b2n (decide (hrC E (fig (ltr ft le sp) (E 0) - 1) (fig (ltr ft le ((sp + 1) + 1)) (E 1) - 1) (E 4) < 3 ∧ E 4 < 16)))) (b := 0) (by have := b2n_lt (decide (hrC E (fig (ltr ft le sp) (E 0) - 1) (fig (ltr ft le ((sp + 1) + 1)) (E 1) - 1) (E 4) < 3 ∧ E 4 < 16)); omega) (by have := b2n_lt (decide (hrC E (fig (ltr ft le sp) (E 0) - 1) (fig (ltr ft le ((sp + 1) + 1)) (E 1) - 1) (E 4) < 3 ∧ E 4 < 16)); omega)).mp c167
                      have h16 := b2d_0 n167
                      refine j_iconst (v := nI 0) EE dX10_ruleIs_170 (by decide) ?_
                      have hR : riM ft le E sp = none := by
                        unfold riM
                        (repeat (first | rw [if_pos (by omega)] | rw [if_neg (by omega)]))
                        try (unfold riT; rw [if_neg (by assumption)])
                      exact j_zret EE FF (by decide) dX10_ruleIs_171 ((((((((sp + 1) + 1) + 1) + 1) + 1) + 1) + 1) + 1, (sA E)) ⟨fun q hq => by rw [hR] at hq; exact absurd hq (by simp), sA_99 hE9⟩ (by rw [hR]; rfl) rfl
                · skip
                  have n117 : (ltr ft le (((((((sp + 1) + 1) + 1) + 1) + 1) + 1) + 1)) = 44 := (nI_eq (a := (ltr ft le (((((((sp + 1) + 1) + 1) + 1) + 1) + 1) + 1))) (b := 44) (by have := ltr_lt (le := le) (sp := (((((((sp + 1) + 1) + 1) + 1) + 1) + 1) + 1)) hft; omega) (by have := ltr_lt (le := le) (sp := (((((((sp + 1) + 1) + 1) + 1) + 1) + 1) + 1)) hft; omega)).mp c117
                  refine j_aload_n EE 6 dX10_ruleIs_120 rfl rfl ?_
                  refine j_aload_n EE 6 dX10_ruleIs_121 rfl rfl ?_
                  refine j_get (T := TX10) EE iw_X10_ruleIs_X10 0 rfl rfl 1 (by decide) lk_X10_ruleIs_13 rfl dX10_ruleIs_122 ?_
                  refine j_iconst (v := nI 1) EE dX10_ruleIs_125 (by decide) ?_
                  refine j_iald EE 2 0 rfl rfl (vp_in_nI (n := 1) (by omega) (by decide)) dX10_ruleIs_126 ?_
                  refine j_topE (congrArg (sA E) (nI_clamp (n := 1) (by omega))) ?_
                  refine j_topE (y := nI (E 1)) (sA_n (by omega)) ?_
                  refine j_V2 (n9 := 14) EE (c_X10_figure h F Q ft B Bt a1 a2 a3 a4 a5 (sA E) W M km le ((((((((sp + 1) + 1) + 1) + 1) + 1) + 1) + 1) + 1) ro (E 1) hft (by omega) (by omega) (by omega)) gX10_ruleIs_X10_figure ⟨rfl, hd_X10_figure⟩ rfl ⟨rfl, rfl⟩ ⟨by decide, by decide⟩ rfl [0, 1, 2, 3, 4, 5, 6, 7, 8, 9, 10, 11, 12, 13] rfl [] [((h 0), .inr (6, [.ref ((h 1)), .ref ((h 2)), .ref ((h 3)), .int (nI km), .ref ((h 4)), .int (nI le), .int (nI (((((((((sp + 1) + 1) + 1) + 1) + 1) + 1) + 1) + 1) + 1)), .ref ((h 5)), .ref ((h 6)), .int (nI ro), .ref ((h 7)), .ref ((h 8)), .ref ((h 9)), .ref ((h 10)), .ref ((h 11)), .ref ((h 12)), .ref ((h 13))])), ((h 1), .inl (cI, 99, .inl (sA F))), ((h 2), .inl (cI, 99, .inl (sA E))), ((h 3), .inl (cI, 594, .inl (kA Q))), ((h 4), .inl (cI, 200, .inl (fun zz => nI (ft zz)))), ((h 5), .inl (cI, 12, .inl (fun zz => nI (B zz)))), ((h 6), .inl (cI, 12, .inl (fun zz => nI (Bt zz)))), ((h 7), .inl (cJ, 16, .inr (.inl W))), ((h 8), .inl (cJ, 16, .inr (.inl M))), ((h 9), .inl (cI, 9, .inl (fun zz => nI (a1 zz)))), ((h 10), .inl (cI, 9, .inl (fun zz => nI (a2 zz)))), ((h 11), .inl (cI, 198, .inl (fun zz => nI (a3 zz)))), ((h 12), .inl (cI, 9, .inl (fun zz => nI (a4 zz)))), ((h 13), .inl (cI, 9, .inl (fA a5)))] (fun _ => rfl) [] [(h 0), (h 1), (h 2), (h 3), (h 4), (h 5), (h 6), (h 7), (h 8), (h 9), (h 10), (h 11), (h 12), (h 13)] rfl rfl rfl rfl rfl (by decide) (by decide) 0 rfl rfl rfl (Nat.le_of_ble_eq_true rfl) dX10_ruleIs_127 (fun u_127 h_127 => ?_) rfl
                  show J l _ D ε _ _ _ (.int (nI (fig (ltr ft le ((((((((sp + 1) + 1) + 1) + 1) + 1) + 1) + 1) + 1)) (E 1)) - nI 1) :: _)
                  refine j_istore EE [(5, _), (6, _), (4, _), (3, _), (2, _), (1, _), (0, _)] dX10_ruleIs_130 (Nat.lt_of_lt_of_eq (by decide) hL.symm) rfl ?_
                  refine j_iload EE 0 dX10_ruleIs_132 rfl ?_
                  refine j_if_ge EE 141 dX10_ruleIs_134 (by decide) (fun c134 => ?_) (fun c134 => ?_)
                  · skip
                    have m134 : ¬ fig (ltr ft le ((((((((sp + 1) + 1) + 1) + 1) + 1) + 1) + 1) + 1)) (E 1) = 0 := (m1_ge (by have := fig_le (ltr ft le ((((((((sp + 1) + 1) + 1) + 1) + 1) + 1) + 1) + 1)) (E 1); omega)).mp c134
                    refine j_aload_n EE 6 dX10_ruleIs_141 rfl rfl ?_
                    refine j_V2 (n9 := 14) EE (c_X10_letter h F Q ft B Bt a1 a2 a3 a4 a5 (sA E) W M km le (((((((((sp + 1) + 1) + 1) + 1) + 1) + 1) + 1) + 1) + 1) ro hft (by omega) (by omega)) gX10_ruleIs_X10_letter ⟨rfl, hd_X10_letter⟩ rfl ⟨rfl, rfl⟩ ⟨by decide, by decide⟩ rfl [0, 1, 2, 3, 4, 5, 6, 7, 8, 9, 10, 11, 12, 13] rfl [] [((h 0), .inr (6, [.ref ((h 1)), .ref ((h 2)), .ref ((h 3)), .int (nI km), .ref ((h 4)), .int (nI le), .int (nI ((((((((((sp + 1) + 1) + 1) + 1) + 1) + 1) + 1) + 1) + 1) + 1)), .ref ((h 5)), .ref ((h 6)), .int (nI ro), .ref ((h 7)), .ref ((h 8)), .ref ((h 9)), .ref ((h 10)), .ref ((h 11)), .ref ((h 12)), .ref ((h 13))])), ((h 1), .inl (cI, 99, .inl (sA F))), ((h 2), .inl (cI, 99, .inl (sA E))), ((h 3), .inl (cI, 594, .inl (kA Q))), ((h 4), .inl (cI, 200, .inl (fun zz => nI (ft zz)))), ((h 5), .inl (cI, 12, .inl (fun zz => nI (B zz)))), ((h 6), .inl (cI, 12, .inl (fun zz => nI (Bt zz)))), ((h 7), .inl (cJ, 16, .inr (.inl W))), ((h 8), .inl (cJ, 16, .inr (.inl M))), ((h 9), .inl (cI, 9, .inl (fun zz => nI (a1 zz)))), ((h 10), .inl (cI, 9, .inl (fun zz => nI (a2 zz)))), ((h 11), .inl (cI, 198, .inl (fun zz => nI (a3 zz)))), ((h 12), .inl (cI, 9, .inl (fun zz => nI (a4 zz)))), ((h 13), .inl (cI, 9, .inl (fA a5)))] (fun _ => rfl) [] [(h 0), (h 1), (h 2), (h 3), (h 4), (h 5), (h 6), (h 7), (h 8), (h 9), (h 10), (h 11), (h 12), (h 13)] rfl rfl rfl rfl rfl (by decide) (by decide) 0 rfl rfl rfl (Nat.le_of_ble_eq_true rfl) dX10_ruleIs_142 (fun u_142 h_142 => ?_) rfl
                    show J l _ D ε _ _ _ (.int (nI (ltr ft le (((((((((sp + 1) + 1) + 1) + 1) + 1) + 1) + 1) + 1) + 1))) :: _)
                    refine j_istore EE [(6, _), (5, _), (4, _), (3, _), (2, _), (1, _), (0, _)] dX10_ruleIs_145 (Nat.lt_of_lt_of_eq (by decide) hL.symm) rfl ?_
                    refine j_iload_n EE 3 dX10_ruleIs_147 rfl rfl ?_
                    refine j_if_lt EE 170 dX10_ruleIs_148 (by decide) (fun c148 => absurd c148 (nI_pos (by omega))) (fun c148 => ?_)
                    have n148 : ¬ (fig (ltr ft le ((((sp + 1) + 1) + 1) + 1)) (E 0) - 1) < 0 := fun hq => c148 ((nI_ltI (a := (fig (ltr ft le ((((sp + 1) + 1) + 1) + 1)) (E 0) - 1)) (b := 0) (by have := fig_le (ltr ft le ((((sp + 1) + 1) + 1) + 1)) (E 0); omega) (by have := fig_le (ltr ft le ((((sp + 1) + 1) + 1) + 1)) (E 0); omega)).mpr hq)
                    refine j_iload EE 0 dX10_ruleIs_151 rfl ?_
                    refine j_bipush (v := nI 59) EE dX10_ruleIs_153 (by decide) ?_
                    refine j_icmp_ne EE 170 dX10_ruleIs_155 (by decide) (fun c155 => ?_) (fun c155 => ?_)
                    · skip
                      have n155 : (ltr ft le (((((((((sp + 1) + 1) + 1) + 1) + 1) + 1) + 1) + 1) + 1)) ≠ 59 := fun hq => c155 ((nI_eq (a := (ltr ft le (((((((((sp + 1) + 1) + 1) + 1) + 1) + 1) + 1) + 1) + 1))) (b := 59) (by have := ltr_lt (le := le) (sp := (((((((((sp + 1) + 1) + 1) + 1) + 1) + 1) + 1) + 1) + 1)) hft; omega) (by have := ltr_lt (le := le) (sp := (((((((((sp + 1) + 1) + 1) + 1) + 1) + 1) + 1) + 1) + 1)) hft; omega)).mpr hq)
                      refine j_iconst (v := nI 0) EE dX10_ruleIs_170 (by decide) ?_
                      have hR : riM ft le E sp = none := by
                        unfold riM
                        (repeat (first | rw [if_pos (by omega)] | rw [if_neg (by omega)]))
                        try (unfold riT; rw [if_neg (by assumption)])
                      exact j_zret EE FF (by decide) dX10_ruleIs_171 ((((((((((sp + 1) + 1) + 1) + 1) + 1) + 1) + 1) + 1) + 1) + 1, (sA E)) ⟨fun q hq => by rw [hR] at hq; exact absurd hq (by simp), sA_99 hE9⟩ (by rw [hR]; rfl) rfl
                    · skip
                      have n155 : (ltr ft le (((((((((sp + 1) + 1) + 1) + 1) + 1) + 1) + 1) + 1) + 1)) = 59 := (nI_eq (a := (ltr ft le (((((((((sp + 1) + 1) + 1) + 1) + 1) + 1) + 1) + 1) + 1))) (b := 59) (by have := ltr_lt (le := le) (sp := (((((((((sp + 1) + 1) + 1) + 1) + 1) + 1) + 1) + 1) + 1)) hft; omega) (by have := ltr_lt (le := le) (sp := (((((((((sp + 1) + 1) + 1) + 1) + 1) + 1) + 1) + 1) + 1)) hft; omega)).mp c155
                      refine j_aload_n EE 6 dX10_ruleIs_158 rfl rfl ?_
                      refine j_get (T := TX10) EE iw_X10_ruleIs_X10 0 rfl rfl 1 (by decide) lk_X10_ruleIs_13 rfl dX10_ruleIs_159 ?_
                      refine j_iload_n EE 5 dX10_ruleIs_162 rfl rfl ?_
                      refine j_iload_n EE 4 dX10_ruleIs_163 rfl rfl ?_
                      refine j_S2 (n9 := 14) EE (c_X10_hasRoom (h 2) E (fig (ltr ft le sp) (E 0) - 1) (fig (ltr ft le ((sp + 1) + 1)) (E 1) - 1) (by omega) hEb (by have := fig_le (ltr ft le sp) (E 0); omega) (by have := fig_le (ltr ft le ((sp + 1) + 1)) (E 1); omega)) gX10_ruleIs_X10_hasRoom hd_X10_hasRoom rfl ⟨rfl, rfl⟩ ⟨by decide, by decide⟩ rfl [2] rfl [0, 1, 3, 4, 5, 6, 7, 8, 9, 10, 11, 12, 13] [((h 0), .inr (6, [.ref ((h 1)), .ref ((h 2)), .ref ((h 3)), .int (nI km), .ref ((h 4)), .int (nI le), .int (nI ((((((((((sp + 1) + 1) + 1) + 1) + 1) + 1) + 1) + 1) + 1) + 1)), .ref ((h 5)), .ref ((h 6)), .int (nI ro), .ref ((h 7)), .ref ((h 8)), .ref ((h 9)), .ref ((h 10)), .ref ((h 11)), .ref ((h 12)), .ref ((h 13))])), ((h 1), .inl (cI, 99, .inl (sA F))), ((h 2), .inl (cI, 99, .inl (sA E))), ((h 3), .inl (cI, 594, .inl (kA Q))), ((h 4), .inl (cI, 200, .inl (fun zz => nI (ft zz)))), ((h 5), .inl (cI, 12, .inl (fun zz => nI (B zz)))), ((h 6), .inl (cI, 12, .inl (fun zz => nI (Bt zz)))), ((h 7), .inl (cJ, 16, .inr (.inl W))), ((h 8), .inl (cJ, 16, .inr (.inl M))), ((h 9), .inl (cI, 9, .inl (fun zz => nI (a1 zz)))), ((h 10), .inl (cI, 9, .inl (fun zz => nI (a2 zz)))), ((h 11), .inl (cI, 198, .inl (fun zz => nI (a3 zz)))), ((h 12), .inl (cI, 9, .inl (fun zz => nI (a4 zz)))), ((h 13), .inl (cI, 9, .inl (fA a5)))] (fun _ => rfl) [((h 0), .inr (6, [.ref ((h 1)), .ref ((h 2)), .ref ((h 3)), .int (nI km), .ref ((h 4)), .int (nI le), .int (nI ((((((((((sp + 1) + 1) + 1) + 1) + 1) + 1) + 1) + 1) + 1) + 1)), .ref ((h 5)), .ref ((h 6)), .int (nI ro), .ref ((h 7)), .ref ((h 8)), .ref ((h 9)), .ref ((h 10)), .ref ((h 11)), .ref ((h 12)), .ref ((h 13))])), ((h 1), .inl (cI, 99, .inl (sA F))), ((h 3), .inl (cI, 594, .inl (kA Q))), ((h 4), .inl (cI, 200, .inl (fun zz => nI (ft zz)))), ((h 5), .inl (cI, 12, .inl (fun zz => nI (B zz)))), ((h 6), .inl (cI, 12, .inl (fun zz => nI (Bt zz)))), ((h 7), .inl (cJ, 16, .inr (.inl W))), ((h 8), .inl (cJ, 16, .inr (.inl M))), ((h 9), .inl (cI, 9, .inl (fun zz => nI (a1 zz)))), ((h 10), .inl (cI, 9, .inl (fun zz => nI (a2 zz)))), ((h 11), .inl (cI, 198, .inl (fun zz => nI (a3 zz)))), ((h 12), .inl (cI, 9, .inl (fun zz => nI (a4 zz)))), ((h 13), .inl (cI, 9, .inl (fA a5)))] [(h 0), (h 1), (h 2), (h 3), (h 4), (h 5), (h 6), (h 7), (h 8), (h 9), (h 10), (h 11), (h 12), (h 13)] rfl rfl rfl rfl rfl (by decide) (by decide) rfl (Nat.le_of_ble_eq_true rfl) dX10_ruleIs_164 (fun u_164 h_164 => ?_) rfl
                      show J l _ D ε _ _ _ (.int (nI (b2n (decide (hrC E (fig (ltr ft le sp) (E 0) - 1) (fig (ltr ft le ((sp + 1) + 1)) (E 1) - 1) (E 4) < 3 ∧ E 4 < 16)))) :: _)
                      refine j_if_ne EE 172 dX10_ruleIs_167 (by decide) (fun c167 => ?_) (fun c167 => ?_)
                      · skip
                        have n167 : (b2n (decide (hrC E (fig (ltr ft le sp) (E 0) - 1) (fig (ltr ft le ((sp + 1) + 1)) (E 1) - 1) (E 4) < 3 ∧ E 4 < 16))) ≠ 0 := fun hq => c167 ((nI_eq (a := (b2n (decide (hrC E (fig (ltr ft le sp) (E 0) - 1) (fig (ltr ft le ((sp + 1) + 1)) (E 1) - 1) (E 4) < 3 ∧ E 4 < 16)))) (b := 0) (by have := b2n_lt (decide (hrC E (fig (ltr ft le sp) (E 0) - 1) (fig (ltr ft le ((sp + 1) + 1)) (E 1) - 1) (E 4) < 3 ∧ E 4 < 16)); omega) (by have := b2n_lt (decide (hrC E (fig (ltr ft le sp) (E 0) - 1) (fig (ltr ft le ((sp + 1) + 1)) (E 1) - 1) (E 4) < 3 ∧ E 4 < 16)); omega)).mpr hq)
                        have h16 := b2d_1 n167
                        refine j_aload_n EE 6 dX10_ruleIs_172 rfl rfl ?_
                        refine j_get (T := TX10) EE iw_X10_ruleIs_X10 0 rfl rfl 1 (by decide) lk_X10_ruleIs_13 rfl dX10_ruleIs_173 ?_
                        refine j_iload_n EE 5 dX10_ruleIs_176 rfl rfl ?_
                        refine j_iload_n EE 4 dX10_ruleIs_177 rfl rfl ?_
                        refine j_iload_n EE 3 dX10_ruleIs_178 rfl rfl ?_
                        refine j_iload EE 2 dX10_ruleIs_179 rfl ?_
                        refine j_iload EE 1 dX10_ruleIs_181 rfl ?_
                        refine j_S2 (n9 := 14) EE (c_X10_rule (h 2) E (fig (ltr ft le sp) (E 0) - 1) (fig (ltr ft le ((sp + 1) + 1)) (E 1) - 1) (fig (ltr ft le ((((sp + 1) + 1) + 1) + 1)) (E 0) - 1) (fig (ltr ft le ((((((sp + 1) + 1) + 1) + 1) + 1) + 1)) (E 1)) (fig (ltr ft le ((((((((sp + 1) + 1) + 1) + 1) + 1) + 1) + 1) + 1)) (E 1)) (by omega)) gX10_ruleIs_X10_rule hd_X10_rule rfl ⟨rfl, rfl⟩ ⟨by decide, by decide⟩ rfl [2] rfl [0, 1, 3, 4, 5, 6, 7, 8, 9, 10, 11, 12, 13] [((h 0), .inr (6, [.ref ((h 1)), .ref ((h 2)), .ref ((h 3)), .int (nI km), .ref ((h 4)), .int (nI le), .int (nI ((((((((((sp + 1) + 1) + 1) + 1) + 1) + 1) + 1) + 1) + 1) + 1)), .ref ((h 5)), .ref ((h 6)), .int (nI ro), .ref ((h 7)), .ref ((h 8)), .ref ((h 9)), .ref ((h 10)), .ref ((h 11)), .ref ((h 12)), .ref ((h 13))])), ((h 1), .inl (cI, 99, .inl (sA F))), ((h 2), .inl (cI, 99, .inl (sA (ruF E (fig (ltr ft le sp) (E 0) - 1) (fig (ltr ft le ((sp + 1) + 1)) (E 1) - 1) (fig (ltr ft le ((((sp + 1) + 1) + 1) + 1)) (E 0) - 1) (fig (ltr ft le ((((((sp + 1) + 1) + 1) + 1) + 1) + 1)) (E 1)) (fig (ltr ft le ((((((((sp + 1) + 1) + 1) + 1) + 1) + 1) + 1) + 1)) (E 1)))))), ((h 3), .inl (cI, 594, .inl (kA Q))), ((h 4), .inl (cI, 200, .inl (fun zz => nI (ft zz)))), ((h 5), .inl (cI, 12, .inl (fun zz => nI (B zz)))), ((h 6), .inl (cI, 12, .inl (fun zz => nI (Bt zz)))), ((h 7), .inl (cJ, 16, .inr (.inl W))), ((h 8), .inl (cJ, 16, .inr (.inl M))), ((h 9), .inl (cI, 9, .inl (fun zz => nI (a1 zz)))), ((h 10), .inl (cI, 9, .inl (fun zz => nI (a2 zz)))), ((h 11), .inl (cI, 198, .inl (fun zz => nI (a3 zz)))), ((h 12), .inl (cI, 9, .inl (fun zz => nI (a4 zz)))), ((h 13), .inl (cI, 9, .inl (fA a5)))] (fun _ => rfl) [((h 0), .inr (6, [.ref ((h 1)), .ref ((h 2)), .ref ((h 3)), .int (nI km), .ref ((h 4)), .int (nI le), .int (nI ((((((((((sp + 1) + 1) + 1) + 1) + 1) + 1) + 1) + 1) + 1) + 1)), .ref ((h 5)), .ref ((h 6)), .int (nI ro), .ref ((h 7)), .ref ((h 8)), .ref ((h 9)), .ref ((h 10)), .ref ((h 11)), .ref ((h 12)), .ref ((h 13))])), ((h 1), .inl (cI, 99, .inl (sA F))), ((h 3), .inl (cI, 594, .inl (kA Q))), ((h 4), .inl (cI, 200, .inl (fun zz => nI (ft zz)))), ((h 5), .inl (cI, 12, .inl (fun zz => nI (B zz)))), ((h 6), .inl (cI, 12, .inl (fun zz => nI (Bt zz)))), ((h 7), .inl (cJ, 16, .inr (.inl W))), ((h 8), .inl (cJ, 16, .inr (.inl M))), ((h 9), .inl (cI, 9, .inl (fun zz => nI (a1 zz)))), ((h 10), .inl (cI, 9, .inl (fun zz => nI (a2 zz)))), ((h 11), .inl (cI, 198, .inl (fun zz => nI (a3 zz)))), ((h 12), .inl (cI, 9, .inl (fun zz => nI (a4 zz)))), ((h 13), .inl (cI, 9, .inl (fA a5)))] [(h 0), (h 1), (h 2), (h 3), (h 4), (h 5), (h 6), (h 7), (h 8), (h 9), (h 10), (h 11), (h 12), (h 13)] rfl rfl rfl rfl rfl (by decide) (by decide) rfl (Nat.le_of_ble_eq_true rfl) dX10_ruleIs_183 (fun u_183 h_183 => ?_) rfl
                        refine j_iconst (v := nI 1) EE dX10_ruleIs_186 (by decide) ?_
                        have hR : riM ft le E sp = some ((((((((((sp + 1) + 1) + 1) + 1) + 1) + 1) + 1) + 1) + 1) + 1, ruF E (fig (ltr ft le sp) (E 0) - 1) (fig (ltr ft le ((sp + 1) + 1)) (E 1) - 1) (fig (ltr ft le ((((sp + 1) + 1) + 1) + 1)) (E 0) - 1) (fig (ltr ft le ((((((sp + 1) + 1) + 1) + 1) + 1) + 1)) (E 1)) (fig (ltr ft le ((((((((sp + 1) + 1) + 1) + 1) + 1) + 1) + 1) + 1)) (E 1))) := by
                          unfold riM
                          (repeat (first | rw [if_pos (by omega)] | rw [if_neg (by omega)]))
                          unfold riT
                          rw [if_pos h16]
                        exact j_zret EE FF (by decide) dX10_ruleIs_187 ((((((((((sp + 1) + 1) + 1) + 1) + 1) + 1) + 1) + 1) + 1) + 1, (sA (ruF E (fig (ltr ft le sp) (E 0) - 1) (fig (ltr ft le ((sp + 1) + 1)) (E 1) - 1) (fig (ltr ft le ((((sp + 1) + 1) + 1) + 1)) (E 0) - 1) (fig (ltr ft le ((((((sp + 1) + 1) + 1) + 1) + 1) + 1)) (E 1)) (fig (ltr ft le ((((((((sp + 1) + 1) + 1) + 1) + 1) + 1) + 1) + 1)) (E 1))))) ⟨fun q hq => by rw [hR] at hq; rw [← Option.some.inj hq], sA_99 (ru_99 (by omega) hE9)⟩ (by rw [hR]; rfl) rfl
                      · skip
                        have n167 : (b2n (decide (hrC E (fig (ltr ft le sp) (E 0) - 1) (fig (ltr ft le ((sp + 1) + 1)) (E 1) - 1) (E 4) < 3 ∧ E 4 < 16))) = 0 := (nI_eq (a := (b2n (decide (hrC E (fig (ltr ft le sp) (E 0) - 1) (fig (ltr ft le ((sp + 1) + 1)) (E 1) - 1) (E 4) < 3 ∧ E 4 < 16)))) (b := 0) (by have := b2n_lt (decide (hrC E (fig (ltr ft le sp) (E 0) - 1) (fig (ltr ft le ((sp + 1) + 1)) (E 1) - 1) (E 4) < 3 ∧ E 4 < 16)); omega) (by have := b2n_lt (decide (hrC E (fig (ltr ft le sp) (E 0) - 1) (fig (ltr ft le ((sp + 1) + 1)) (E 1) - 1) (E 4) < 3 ∧ E 4 < 16)); omega)).mp c167
                        have h16 := b2d_0 n167
                        refine j_iconst (v := nI 0) EE dX10_ruleIs_170 (by decide) ?_
                        have hR : riM ft le E sp = none := by
                          unfold riM
                          (repeat (first | rw [if_pos (by omega)] | rw [if_neg (by omega)]))
                          try (unfold riT; rw [if_neg (by assumption)])
                        exact j_zret EE FF (by decide) dX10_ruleIs_171 ((((((((((sp + 1) + 1) + 1) + 1) + 1) + 1) + 1) + 1) + 1) + 1, (sA E)) ⟨fun q hq => by rw [hR] at hq; exact absurd hq (by simp), sA_99 hE9⟩ (by rw [hR]; rfl) rfl
                  · skip
                    have m134 : fig (ltr ft le ((((((((sp + 1) + 1) + 1) + 1) + 1) + 1) + 1) + 1)) (E 1) = 0 := by
                      rcases Nat.eq_zero_or_pos (fig (ltr ft le ((((((((sp + 1) + 1) + 1) + 1) + 1) + 1) + 1) + 1)) (E 1)) with hz | hz
                      · exact hz
                      · exact absurd ((m1_ge (by have := fig_le (ltr ft le ((((((((sp + 1) + 1) + 1) + 1) + 1) + 1) + 1) + 1)) (E 1); omega)).mpr (by omega)) c134
                    refine j_iconst (v := nI 0) EE dX10_ruleIs_137 (by decide) ?_
                    refine j_goto EE 145 dX10_ruleIs_138 (by decide) ?_
                    refine j_istore EE [(6, _), (5, _), (4, _), (3, _), (2, _), (1, _), (0, _)] dX10_ruleIs_145 (Nat.lt_of_lt_of_eq (by decide) hL.symm) rfl ?_
                    refine j_iload_n EE 3 dX10_ruleIs_147 rfl rfl ?_
                    refine j_if_lt EE 170 dX10_ruleIs_148 (by decide) (fun c148 => absurd c148 (nI_pos (by omega))) (fun c148 => ?_)
                    have n148 : ¬ (fig (ltr ft le ((((sp + 1) + 1) + 1) + 1)) (E 0) - 1) < 0 := fun hq => c148 ((nI_ltI (a := (fig (ltr ft le ((((sp + 1) + 1) + 1) + 1)) (E 0) - 1)) (b := 0) (by have := fig_le (ltr ft le ((((sp + 1) + 1) + 1) + 1)) (E 0); omega) (by have := fig_le (ltr ft le ((((sp + 1) + 1) + 1) + 1)) (E 0); omega)).mpr hq)
                    refine j_iload EE 0 dX10_ruleIs_151 rfl ?_
                    refine j_bipush (v := nI 59) EE dX10_ruleIs_153 (by decide) ?_
                    refine j_icmp_ne EE 170 dX10_ruleIs_155 (by decide) (fun c155 => ?_) (fun c155 => absurd c155 (by decide))
                    have n155 : 0 ≠ 59 := fun hq => c155 ((nI_eq (a := 0) (b := 59) (by omega) (by omega)).mpr hq)
                    refine j_iconst (v := nI 0) EE dX10_ruleIs_170 (by decide) ?_
                    have hR : riM ft le E sp = none := by
                      unfold riM
                      (repeat (first | rw [if_pos (by omega)] | rw [if_neg (by omega)]))
                      try (unfold riT; rw [if_neg (by assumption)])
                    exact j_zret EE FF (by decide) dX10_ruleIs_171 (((((((((sp + 1) + 1) + 1) + 1) + 1) + 1) + 1) + 1) + 1, (sA E)) ⟨fun q hq => by rw [hR] at hq; exact absurd hq (by simp), sA_99 hE9⟩ (by rw [hR]; rfl) rfl
              · skip
                have m100 : fig (ltr ft le ((((((sp + 1) + 1) + 1) + 1) + 1) + 1)) (E 1) = 0 := by
                  rcases Nat.eq_zero_or_pos (fig (ltr ft le ((((((sp + 1) + 1) + 1) + 1) + 1) + 1)) (E 1)) with hz | hz
                  · exact hz
                  · exact absurd ((m1_ge (by have := fig_le (ltr ft le ((((((sp + 1) + 1) + 1) + 1) + 1) + 1)) (E 1); omega)).mpr (by omega)) c100
                refine j_iconst (v := nI 0) EE dX10_ruleIs_103 (by decide) ?_
                refine j_goto EE 111 dX10_ruleIs_104 (by decide) ?_
                refine j_istore EE [(6, _), (4, _), (5, _), (3, _), (2, _), (1, _), (0, _)] dX10_ruleIs_111 (Nat.lt_of_lt_of_eq (by decide) hL.symm) rfl ?_
                refine j_iload EE 0 dX10_ruleIs_113 rfl ?_
                refine j_bipush (v := nI 44) EE dX10_ruleIs_115 (by decide) ?_
                refine j_icmp_ne EE 147 dX10_ruleIs_117 (by decide) (fun c117 => ?_) (fun c117 => absurd c117 (by decide))
                have n117 : 0 ≠ 44 := fun hq => c117 ((nI_eq (a := 0) (b := 44) (by omega) (by omega)).mpr hq)
                refine j_iload_n EE 3 dX10_ruleIs_147 rfl rfl ?_
                refine j_if_lt EE 170 dX10_ruleIs_148 (by decide) (fun c148 => absurd c148 (nI_pos (by omega))) (fun c148 => ?_)
                have n148 : ¬ (fig (ltr ft le ((((sp + 1) + 1) + 1) + 1)) (E 0) - 1) < 0 := fun hq => c148 ((nI_ltI (a := (fig (ltr ft le ((((sp + 1) + 1) + 1) + 1)) (E 0) - 1)) (b := 0) (by have := fig_le (ltr ft le ((((sp + 1) + 1) + 1) + 1)) (E 0); omega) (by have := fig_le (ltr ft le ((((sp + 1) + 1) + 1) + 1)) (E 0); omega)).mpr hq)
                refine j_iload EE 0 dX10_ruleIs_151 rfl ?_
                refine j_bipush (v := nI 59) EE dX10_ruleIs_153 (by decide) ?_
                refine j_icmp_ne EE 170 dX10_ruleIs_155 (by decide) (fun c155 => ?_) (fun c155 => absurd c155 (by decide))
                have n155 : 0 ≠ 59 := fun hq => c155 ((nI_eq (a := 0) (b := 59) (by omega) (by omega)).mpr hq)
                refine j_iconst (v := nI 0) EE dX10_ruleIs_170 (by decide) ?_
                have hR : riM ft le E sp = none := by
                  unfold riM
                  (repeat (first | rw [if_pos (by omega)] | rw [if_neg (by omega)]))
                  try (unfold riT; rw [if_neg (by assumption)])
                exact j_zret EE FF (by decide) dX10_ruleIs_171 (((((((sp + 1) + 1) + 1) + 1) + 1) + 1) + 1, (sA E)) ⟨fun q hq => by rw [hR] at hq; exact absurd hq (by simp), sA_99 hE9⟩ (by rw [hR]; rfl) rfl
        · skip
          have n47 : (ltr ft le (((sp + 1) + 1) + 1)) ≠ 44 := fun hq => c47 ((nI_eq (a := (ltr ft le (((sp + 1) + 1) + 1))) (b := 44) (by have := ltr_lt (le := le) (sp := (((sp + 1) + 1) + 1)) hft; omega) (by have := ltr_lt (le := le) (sp := (((sp + 1) + 1) + 1)) hft; omega)).mpr hq)
          refine j_iconst (v := nI 0) EE dX10_ruleIs_50 (by decide) ?_
          have hR : riM ft le E sp = none := by
            unfold riM
            (repeat (first | rw [if_pos (by omega)] | rw [if_neg (by omega)]))
            try (unfold riT; rw [if_neg (by assumption)])
          exact j_zret EE FF (by decide) dX10_ruleIs_51 ((((sp + 1) + 1) + 1) + 1, (sA E)) ⟨fun q hq => by rw [hR] at hq; exact absurd hq (by simp), sA_99 hE9⟩ (by rw [hR]; rfl) rfl
    · skip
      have n21 : (ltr ft le (sp + 1)) ≠ 44 := fun hq => c21 ((nI_eq (a := (ltr ft le (sp + 1))) (b := 44) (by have := ltr_lt (le := le) (sp := (sp + 1)) hft; omega) (by have := ltr_lt (le := le) (sp := (sp + 1)) hft; omega)).mpr hq)
      refine j_iconst (v := nI 0) EE dX10_ruleIs_24 (by decide) ?_
      have hR : riM ft le E sp = none := by
        unfold riM
        (repeat (first | rw [if_pos (by omega)] | rw [if_neg (by omega)]))
        try (unfold riT; rw [if_neg (by assumption)])
      exact j_zret EE FF (by decide) dX10_ruleIs_25 ((sp + 1) + 1, (sA E)) ⟨fun q hq => by rw [hR] at hq; exact absurd hq (by simp), sA_99 hE9⟩ (by rw [hR]; rfl) rfl

theorem iw_X10_statement_X10 : ∀ w ∈ wsX100, w ∈ wsX10_statement := fun _ h => List.mem_cons_of_mem _ (List.mem_append_right _ h)
theorem lk_X10_statement_13 : Cond.fieldLink RX10 13 (TX10 1).1 (TX10 1).2.1 (TX10 1).2.2.1 ∈ wsX10_statement := List.mem_of_getElem? (i := 1) rfl
set_option maxHeartbeats 4000000 in
set_option maxRecDepth 100000 in
theorem c_X10_statement1 (h F Q ft B Bt a1 a2 a3 a4 a5 : Nat → Nat) (fr : Nat → Int32) (W M : Nat → Int64) (km le sp ro : Nat) (E : Nat → Nat) (hft : ∀ i, ft i < 65536) (hle : le ≤ 200) (hsp : sp < 250) (hE : eOk E) : Ct l yX10_statement wsX10_statement (rmD (3)) D [(cI, .int), (cC, .char), (cJ, .long), (cG, .object "PushdownGameSolver$Game")] [.ref ((h 0)), .int (nI 1)] [((h 0), .inr (6, [.ref ((h 1)), .ref ((h 2)), .ref ((h 3)), .int (nI km), .ref ((h 4)), .int (nI le), .int (nI sp), .ref ((h 5)), .ref ((h 6)), .int (nI ro), .ref ((h 7)), .ref ((h 8)), .ref ((h 9)), .ref ((h 10)), .ref ((h 11)), .ref ((h 12)), .ref ((h 13))])), ((h 1), .inl (cI, 99, .inl (sA F))), ((h 2), .inl (cI, 99, .inl (sA E))), ((h 3), .inl (cI, 594, .inl (kA Q))), ((h 4), .inl (cI, 200, .inl (fun zz => nI (ft zz)))), ((h 5), .inl (cI, 12, .inl (fun zz => nI (B zz)))), ((h 6), .inl (cI, 12, .inl (fun zz => nI (Bt zz)))), ((h 7), .inl (cJ, 16, .inr (.inl W))), ((h 8), .inl (cJ, 16, .inr (.inl M))), ((h 9), .inl (cI, 9, .inl (fun zz => nI (a1 zz)))), ((h 10), .inl (cI, 9, .inl (fun zz => nI (a2 zz)))), ((h 11), .inl (cI, 198, .inl (fun zz => nI (a3 zz)))), ((h 12), .inl (cI, 9, .inl (fun zz => nI (a4 zz)))), ((h 13), .inl (cI, 9, .inl (fA a5)))] (S := RT) (fun u => (∀ q, s1M ft le E sp = some q → u = (q.1, sA q.2)) ∧ ∀ i, 99 ≤ i → u.2 i = nI 0) (fun u => some (.int (nI (b2n (s1M ft le E sp).isSome)))) (fun u => [((h 0), .inr (6, [.ref ((h 1)), .ref ((h 2)), .ref ((h 3)), .int (nI km), .ref ((h 4)), .int (nI le), .int (nI u.1), .ref ((h 5)), .ref ((h 6)), .int (nI ro), .ref ((h 7)), .ref ((h 8)), .ref ((h 9)), .ref ((h 10)), .ref ((h 11)), .ref ((h 12)), .ref ((h 13))])), ((h 1), .inl (cI, 99, .inl (sA F))), ((h 2), .inl (cI, 99, .inl u.2)), ((h 3), .inl (cI, 594, .inl (kA Q))), ((h 4), .inl (cI, 200, .inl (fun zz => nI (ft zz)))), ((h 5), .inl (cI, 12, .inl (fun zz => nI (B zz)))), ((h 6), .inl (cI, 12, .inl (fun zz => nI (Bt zz)))), ((h 7), .inl (cJ, 16, .inr (.inl W))), ((h 8), .inl (cJ, 16, .inr (.inl M))), ((h 9), .inl (cI, 9, .inl (fun zz => nI (a1 zz)))), ((h 10), .inl (cI, 9, .inl (fun zz => nI (a2 zz)))), ((h 11), .inl (cI, 198, .inl (fun zz => nI (a3 zz)))), ((h 12), .inl (cI, 9, .inl (fun zz => nI (a4 zz)))), ((h 13), .inl (cI, 9, .inl (fA a5)))]) := by
  refine Ct.of (lv := [(0, .ref ((h 0))), (1, .int (nI 1))]) (by decide) rfl (Nat.le_of_ble_eq_true rfl) rfl ?_
  intro ε hL EE FF
  obtain ⟨hEb, hE0, hE1, hE2, hE3, hE4, hE9⟩ := hE
  refine j_aload_n EE 0 dX10_statement_0 rfl rfl ?_
  refine j_V2 (n9 := 14) EE (c_X10_letter h F Q ft B Bt a1 a2 a3 a4 a5 (sA E) W M km le sp ro hft (by omega) (by omega)) gX10_statement_X10_letter ⟨rfl, hd_X10_letter⟩ rfl ⟨rfl, rfl⟩ ⟨by decide, by decide⟩ rfl [0, 1, 2, 3, 4, 5, 6, 7, 8, 9, 10, 11, 12, 13] rfl [] [((h 0), .inr (6, [.ref ((h 1)), .ref ((h 2)), .ref ((h 3)), .int (nI km), .ref ((h 4)), .int (nI le), .int (nI (sp + 1)), .ref ((h 5)), .ref ((h 6)), .int (nI ro), .ref ((h 7)), .ref ((h 8)), .ref ((h 9)), .ref ((h 10)), .ref ((h 11)), .ref ((h 12)), .ref ((h 13))])), ((h 1), .inl (cI, 99, .inl (sA F))), ((h 2), .inl (cI, 99, .inl (sA E))), ((h 3), .inl (cI, 594, .inl (kA Q))), ((h 4), .inl (cI, 200, .inl (fun zz => nI (ft zz)))), ((h 5), .inl (cI, 12, .inl (fun zz => nI (B zz)))), ((h 6), .inl (cI, 12, .inl (fun zz => nI (Bt zz)))), ((h 7), .inl (cJ, 16, .inr (.inl W))), ((h 8), .inl (cJ, 16, .inr (.inl M))), ((h 9), .inl (cI, 9, .inl (fun zz => nI (a1 zz)))), ((h 10), .inl (cI, 9, .inl (fun zz => nI (a2 zz)))), ((h 11), .inl (cI, 198, .inl (fun zz => nI (a3 zz)))), ((h 12), .inl (cI, 9, .inl (fun zz => nI (a4 zz)))), ((h 13), .inl (cI, 9, .inl (fA a5)))] (fun _ => rfl) [] [(h 0), (h 1), (h 2), (h 3), (h 4), (h 5), (h 6), (h 7), (h 8), (h 9), (h 10), (h 11), (h 12), (h 13)] rfl rfl rfl rfl rfl (by decide) (by decide) 0 rfl rfl rfl (Nat.le_of_ble_eq_true rfl) dX10_statement_1 (fun u_1 h_1 => ?_) rfl
  show J l _ D ε _ _ _ (.int (nI (ltr ft le sp)) :: _)
  refine j_istore_n EE [(2, _), (0, _), (1, _)] dX10_statement_4 rfl (Nat.lt_of_lt_of_eq (by decide) hL.symm) rfl ?_
  refine j_iload_n EE 0 dX10_statement_5 rfl rfl ?_
  refine j_bipush (v := nI 103) EE dX10_statement_6 (by decide) ?_
  refine j_icmp_ne EE 15 dX10_statement_8 (by decide) (fun c8 => ?_) (fun c8 => ?_)
  · skip
    have n8 : (ltr ft le sp) ≠ 103 := fun hq => c8 ((nI_eq (a := (ltr ft le sp)) (b := 103) (by have := ltr_lt (le := le) (sp := sp) hft; omega) (by have := ltr_lt (le := le) (sp := sp) hft; omega)).mpr hq)
    refine j_iconst (v := nI 0) EE dX10_statement_15 (by decide) ?_
    refine j_iload_n EE 2 dX10_statement_16 rfl rfl ?_
    refine j_icmp_eq EE 22 dX10_statement_17 (by decide) (fun c17 => absurd c17 (by decide)) (fun c17 => ?_)
    have n17 : 0 ≠ 1 := fun hq => c17 ((nI_eq (a := 0) (b := 1) (by omega) (by omega)).mpr hq)
    refine j_iconst (v := nI 0) EE dX10_statement_20 (by decide) ?_
    have hR : s1M ft le E sp = none := by
      unfold s1M
      (repeat (first | rw [if_pos (by omega)] | rw [if_neg (by omega)]))
    exact j_zret EE FF (by decide) dX10_statement_21 (sp + 1, (sA E)) ⟨fun q hq => by rw [hR] at hq; exact absurd hq (by simp), sA_99 hE9⟩ (by rw [hR]; rfl) rfl
  · skip
    have n8 : (ltr ft le sp) = 103 := (nI_eq (a := (ltr ft le sp)) (b := 103) (by have := ltr_lt (le := le) (sp := sp) hft; omega) (by have := ltr_lt (le := le) (sp := sp) hft; omega)).mp c8
    refine j_iconst (v := nI 1) EE dX10_statement_11 (by decide) ?_
    refine j_goto EE 16 dX10_statement_12 (by decide) ?_
    refine j_iload_n EE 2 dX10_statement_16 rfl rfl ?_
    refine j_icmp_eq EE 22 dX10_statement_17 (by decide) (fun c17 => ?_) (fun c17 => absurd (by decide) c17)
    have n17 : 1 = 1 := (nI_eq (a := 1) (b := 1) (by omega) (by omega)).mp c17
    refine j_iload_n EE 2 dX10_statement_22 rfl rfl ?_
    refine j_if_eq EE 104 dX10_statement_23 (by decide) (fun c23 => absurd c23 (by decide)) (fun c23 => ?_)
    have n23 : 1 ≠ 0 := fun hq => c23 ((nI_eq (a := 1) (b := 0) (by omega) (by omega)).mpr hq)
    refine j_aload_n EE 1 dX10_statement_26 rfl rfl ?_
    refine j_get (T := TX10) EE iw_X10_statement_X10 0 rfl rfl 1 (by decide) lk_X10_statement_13 rfl dX10_statement_27 ?_
    refine j_iconst (v := nI 0) EE dX10_statement_30 (by decide) ?_
    refine j_aload_n EE 1 dX10_statement_31 rfl rfl ?_
    refine j_iconst (v := nI 5) EE dX10_statement_32 (by decide) ?_
    refine j_V2 (n9 := 14) EE (c_X10_figure h F Q ft B Bt a1 a2 a3 a4 a5 (sA E) W M km le (sp + 1) ro 5 hft (by omega) (by omega) (by omega)) gX10_statement_X10_figure ⟨rfl, hd_X10_figure⟩ rfl ⟨rfl, rfl⟩ ⟨by decide, by decide⟩ rfl [0, 1, 2, 3, 4, 5, 6, 7, 8, 9, 10, 11, 12, 13] rfl [] [((h 0), .inr (6, [.ref ((h 1)), .ref ((h 2)), .ref ((h 3)), .int (nI km), .ref ((h 4)), .int (nI le), .int (nI ((sp + 1) + 1)), .ref ((h 5)), .ref ((h 6)), .int (nI ro), .ref ((h 7)), .ref ((h 8)), .ref ((h 9)), .ref ((h 10)), .ref ((h 11)), .ref ((h 12)), .ref ((h 13))])), ((h 1), .inl (cI, 99, .inl (sA F))), ((h 2), .inl (cI, 99, .inl (sA E))), ((h 3), .inl (cI, 594, .inl (kA Q))), ((h 4), .inl (cI, 200, .inl (fun zz => nI (ft zz)))), ((h 5), .inl (cI, 12, .inl (fun zz => nI (B zz)))), ((h 6), .inl (cI, 12, .inl (fun zz => nI (Bt zz)))), ((h 7), .inl (cJ, 16, .inr (.inl W))), ((h 8), .inl (cJ, 16, .inr (.inl M))), ((h 9), .inl (cI, 9, .inl (fun zz => nI (a1 zz)))), ((h 10), .inl (cI, 9, .inl (fun zz => nI (a2 zz)))), ((h 11), .inl (cI, 198, .inl (fun zz => nI (a3 zz)))), ((h 12), .inl (cI, 9, .inl (fun zz => nI (a4 zz)))), ((h 13), .inl (cI, 9, .inl (fA a5)))] (fun _ => rfl) [] [(h 0), (h 1), (h 2), (h 3), (h 4), (h 5), (h 6), (h 7), (h 8), (h 9), (h 10), (h 11), (h 12), (h 13)] rfl rfl rfl rfl rfl (by decide) (by decide) 0 rfl rfl rfl (Nat.le_of_ble_eq_true rfl) dX10_statement_33 (fun u_33 h_33 => ?_) rfl
    show J l _ D ε _ _ _ (.int (nI (fig (ltr ft le (sp + 1)) 5) - nI 1) :: _)
    rcases Nat.eq_zero_or_pos (fig (ltr ft le (sp + 1)) 5) with z33 | z33
    · skip
      rw [z33]
      refine j_iast (ws' := [((h 0), .inr (6, [.ref ((h 1)), .ref ((h 2)), .ref ((h 3)), .int (nI km), .ref ((h 4)), .int (nI le), .int (nI ((sp + 1) + 1)), .ref ((h 5)), .ref ((h 6)), .int (nI ro), .ref ((h 7)), .ref ((h 8)), .ref ((h 9)), .ref ((h 10)), .ref ((h 11)), .ref ((h 12)), .ref ((h 13))])), ((h 1), .inl (cI, 99, .inl (sA F))), ((h 2), .inl (cI, 99, .inl (upd (sA E) 0 (nI 0 - nI 1)))), ((h 3), .inl (cI, 594, .inl (kA Q))), ((h 4), .inl (cI, 200, .inl (fun zz => nI (ft zz)))), ((h 5), .inl (cI, 12, .inl (fun zz => nI (B zz)))), ((h 6), .inl (cI, 12, .inl (fun zz => nI (Bt zz)))), ((h 7), .inl (cJ, 16, .inr (.inl W))), ((h 8), .inl (cJ, 16, .inr (.inl M))), ((h 9), .inl (cI, 9, .inl (fun zz => nI (a1 zz)))), ((h 10), .inl (cI, 9, .inl (fun zz => nI (a2 zz)))), ((h 11), .inl (cI, 198, .inl (fun zz => nI (a3 zz)))), ((h 12), .inl (cI, 9, .inl (fun zz => nI (a4 zz)))), ((h 13), .inl (cI, 9, .inl (fA a5)))]) EE 2 0 rfl rfl (vp_in_nI (n := 0) (by omega) (by decide)) (by rw [nI_clamp (by omega)]; rfl) dX10_statement_36 ?_
      refine j_aload_n EE 1 dX10_statement_37 rfl rfl ?_
      refine j_get (T := TX10) EE iw_X10_statement_X10 0 rfl rfl 1 (by decide) lk_X10_statement_13 rfl dX10_statement_38 ?_
      refine j_iconst (v := nI 0) EE dX10_statement_41 (by decide) ?_
      refine j_iald EE 2 0 rfl rfl (vp_in_nI (n := 0) (by omega) (by decide)) dX10_statement_42 ?_
      refine j_topE (congrArg (upd (sA E) 0 (nI 0 - nI 1)) (nI_clamp (n := 0) (by omega))) ?_
      refine j_topE (y := nI 0 - nI 1) (by unfold upd; rw [if_pos rfl]) ?_
      refine j_if_le EE 59 dX10_statement_43 (by decide) (fun c43 => ?_) (fun c43 => absurd (by decide) c43)
      refine j_iconst (v := nI 0) EE dX10_statement_59 (by decide) ?_
      refine j_istore_n EE [(3, _), (2, _), (0, _), (1, _)] dX10_statement_60 rfl (Nat.lt_of_lt_of_eq (by decide) hL.symm) rfl ?_
      refine j_aload_n EE 2 dX10_statement_61 rfl rfl ?_
      refine j_get (T := TX10) EE iw_X10_statement_X10 0 rfl rfl 1 (by decide) lk_X10_statement_13 rfl dX10_statement_62 ?_
      refine j_iconst (v := nI 1) EE dX10_statement_65 (by decide) ?_
      refine j_iload_n EE 0 dX10_statement_66 rfl rfl ?_
      refine j_if_eq EE 78 dX10_statement_67 (by decide) (fun c67 => ?_) (fun c67 => absurd (by decide) c67)
      have n67 : 0 = 0 := (nI_eq (a := 0) (b := 0) (by omega) (by omega)).mp c67
      refine j_iconst (v := nI 0) EE dX10_statement_78 (by decide) ?_
      refine j_iast (ws' := [((h 0), .inr (6, [.ref ((h 1)), .ref ((h 2)), .ref ((h 3)), .int (nI km), .ref ((h 4)), .int (nI le), .int (nI ((sp + 1) + 1)), .ref ((h 5)), .ref ((h 6)), .int (nI ro), .ref ((h 7)), .ref ((h 8)), .ref ((h 9)), .ref ((h 10)), .ref ((h 11)), .ref ((h 12)), .ref ((h 13))])), ((h 1), .inl (cI, 99, .inl (sA F))), ((h 2), .inl (cI, 99, .inl (upd (upd (sA E) 0 (nI 0 - nI 1)) 1 (nI 0)))), ((h 3), .inl (cI, 594, .inl (kA Q))), ((h 4), .inl (cI, 200, .inl (fun zz => nI (ft zz)))), ((h 5), .inl (cI, 12, .inl (fun zz => nI (B zz)))), ((h 6), .inl (cI, 12, .inl (fun zz => nI (Bt zz)))), ((h 7), .inl (cJ, 16, .inr (.inl W))), ((h 8), .inl (cJ, 16, .inr (.inl M))), ((h 9), .inl (cI, 9, .inl (fun zz => nI (a1 zz)))), ((h 10), .inl (cI, 9, .inl (fun zz => nI (a2 zz)))), ((h 11), .inl (cI, 198, .inl (fun zz => nI (a3 zz)))), ((h 12), .inl (cI, 9, .inl (fun zz => nI (a4 zz)))), ((h 13), .inl (cI, 9, .inl (fA a5)))]) EE 2 0 rfl rfl (vp_in_nI (n := 1) (by omega) (by decide)) (by rw [nI_clamp (by omega)]; rfl) dX10_statement_79 ?_
      refine j_aload_n EE 2 dX10_statement_80 rfl rfl ?_
      refine j_get (T := TX10) EE iw_X10_statement_X10 0 rfl rfl 1 (by decide) lk_X10_statement_13 rfl dX10_statement_81 ?_
      refine j_iconst (v := nI 1) EE dX10_statement_84 (by decide) ?_
      refine j_iald EE 2 0 rfl rfl (vp_in_nI (n := 1) (by omega) (by decide)) dX10_statement_85 ?_
      refine j_topE (congrArg (upd (upd (sA E) 0 (nI 0 - nI 1)) 1 (nI 0)) (nI_clamp (n := 1) (by omega))) ?_
      refine j_topE (y := nI 0) (by unfold upd; rw [if_pos rfl]) ?_
      refine j_if_le EE 102 dX10_statement_86 (by decide) (fun c86 => ?_) (fun c86 => absurd (by decide) c86)
      have n86 : 0 ≤ 0 := (nI_leI (a := 0) (b := 0) (by omega) (by omega)).mp c86
      refine j_iconst (v := nI 0) EE dX10_statement_102 (by decide) ?_
      have hR : s1M ft le E sp = none := by
        unfold s1M
        (repeat (first | rw [if_pos (by omega)] | rw [if_neg (by omega)]))
      exact j_zret EE FF (by decide) dX10_statement_103 ((sp + 1) + 1, (upd (upd (sA E) 0 (nI 0 - nI 1)) 1 (nI 0))) ⟨fun q hq => by rw [hR] at hq; exact absurd hq (by simp), up_99 (by omega) (up_99 (by omega) (sA_99 hE9))⟩ (by rw [hR]; rfl) rfl
    · skip
      have g33 := fig_le (ltr ft le (sp + 1)) 5
      rw [show nI (fig (ltr ft le (sp + 1)) 5) - nI 1 = nI (fig (ltr ft le (sp + 1)) 5 - 1) from pk_sub (by omega)]
      refine j_iast (ws' := [((h 0), .inr (6, [.ref ((h 1)), .ref ((h 2)), .ref ((h 3)), .int (nI km), .ref ((h 4)), .int (nI le), .int (nI ((sp + 1) + 1)), .ref ((h 5)), .ref ((h 6)), .int (nI ro), .ref ((h 7)), .ref ((h 8)), .ref ((h 9)), .ref ((h 10)), .ref ((h 11)), .ref ((h 12)), .ref ((h 13))])), ((h 1), .inl (cI, 99, .inl (sA F))), ((h 2), .inl (cI, 99, .inl (sA (updN E 0 (fig (ltr ft le (sp + 1)) 5 - 1))))), ((h 3), .inl (cI, 594, .inl (kA Q))), ((h 4), .inl (cI, 200, .inl (fun zz => nI (ft zz)))), ((h 5), .inl (cI, 12, .inl (fun zz => nI (B zz)))), ((h 6), .inl (cI, 12, .inl (fun zz => nI (Bt zz)))), ((h 7), .inl (cJ, 16, .inr (.inl W))), ((h 8), .inl (cJ, 16, .inr (.inl M))), ((h 9), .inl (cI, 9, .inl (fun zz => nI (a1 zz)))), ((h 10), .inl (cI, 9, .inl (fun zz => nI (a2 zz)))), ((h 11), .inl (cI, 198, .inl (fun zz => nI (a3 zz)))), ((h 12), .inl (cI, 9, .inl (fun zz => nI (a4 zz)))), ((h 13), .inl (cI, 9, .inl (fA a5)))]) EE 2 0 rfl rfl (vp_in_nI (n := 0) (by omega) (by decide)) (by rw [nI_clamp (by omega), upd_sAn (by omega)]; rfl) dX10_statement_36 ?_
      refine j_aload_n EE 1 dX10_statement_37 rfl rfl ?_
      refine j_get (T := TX10) EE iw_X10_statement_X10 0 rfl rfl 1 (by decide) lk_X10_statement_13 rfl dX10_statement_38 ?_
      refine j_iconst (v := nI 0) EE dX10_statement_41 (by decide) ?_
      refine j_iald EE 2 0 rfl rfl (vp_in_nI (n := 0) (by omega) (by decide)) dX10_statement_42 ?_
      refine j_topE (congrArg (sA (updN E 0 (fig (ltr ft le (sp + 1)) 5 - 1))) (nI_clamp (n := 0) (by omega))) ?_
      refine j_topE (y := nI (fig (ltr ft le (sp + 1)) 5 - 1)) (by rw [sA_n (by omega)]; simp only [updN]; (repeat (first | rw [if_pos (by omega)] | rw [if_neg (by omega)]))) ?_
      refine j_if_le EE 59 dX10_statement_43 (by decide) (fun c43 => ?_) (fun c43 => ?_)
      · skip
        have n43 : (fig (ltr ft le (sp + 1)) 5 - 1) ≤ 0 := (nI_leI (a := (fig (ltr ft le (sp + 1)) 5 - 1)) (b := 0) (by omega) (by omega)).mp c43
        refine j_iconst (v := nI 0) EE dX10_statement_59 (by decide) ?_
        refine j_istore_n EE [(3, _), (2, _), (0, _), (1, _)] dX10_statement_60 rfl (Nat.lt_of_lt_of_eq (by decide) hL.symm) rfl ?_
        refine j_aload_n EE 2 dX10_statement_61 rfl rfl ?_
        refine j_get (T := TX10) EE iw_X10_statement_X10 0 rfl rfl 1 (by decide) lk_X10_statement_13 rfl dX10_statement_62 ?_
        refine j_iconst (v := nI 1) EE dX10_statement_65 (by decide) ?_
        refine j_iload_n EE 0 dX10_statement_66 rfl rfl ?_
        refine j_if_eq EE 78 dX10_statement_67 (by decide) (fun c67 => ?_) (fun c67 => absurd (by decide) c67)
        have n67 : 0 = 0 := (nI_eq (a := 0) (b := 0) (by omega) (by omega)).mp c67
        refine j_iconst (v := nI 0) EE dX10_statement_78 (by decide) ?_
        refine j_iast (ws' := [((h 0), .inr (6, [.ref ((h 1)), .ref ((h 2)), .ref ((h 3)), .int (nI km), .ref ((h 4)), .int (nI le), .int (nI ((sp + 1) + 1)), .ref ((h 5)), .ref ((h 6)), .int (nI ro), .ref ((h 7)), .ref ((h 8)), .ref ((h 9)), .ref ((h 10)), .ref ((h 11)), .ref ((h 12)), .ref ((h 13))])), ((h 1), .inl (cI, 99, .inl (sA F))), ((h 2), .inl (cI, 99, .inl (sA (updN (updN E 0 (fig (ltr ft le (sp + 1)) 5 - 1)) 1 0)))), ((h 3), .inl (cI, 594, .inl (kA Q))), ((h 4), .inl (cI, 200, .inl (fun zz => nI (ft zz)))), ((h 5), .inl (cI, 12, .inl (fun zz => nI (B zz)))), ((h 6), .inl (cI, 12, .inl (fun zz => nI (Bt zz)))), ((h 7), .inl (cJ, 16, .inr (.inl W))), ((h 8), .inl (cJ, 16, .inr (.inl M))), ((h 9), .inl (cI, 9, .inl (fun zz => nI (a1 zz)))), ((h 10), .inl (cI, 9, .inl (fun zz => nI (a2 zz)))), ((h 11), .inl (cI, 198, .inl (fun zz => nI (a3 zz)))), ((h 12), .inl (cI, 9, .inl (fun zz => nI (a4 zz)))), ((h 13), .inl (cI, 9, .inl (fA a5)))]) EE 2 0 rfl rfl (vp_in_nI (n := 1) (by omega) (by decide)) (by rw [nI_clamp (by omega), upd_sAn (by omega)]; rfl) dX10_statement_79 ?_
        refine j_aload_n EE 2 dX10_statement_80 rfl rfl ?_
        refine j_get (T := TX10) EE iw_X10_statement_X10 0 rfl rfl 1 (by decide) lk_X10_statement_13 rfl dX10_statement_81 ?_
        refine j_iconst (v := nI 1) EE dX10_statement_84 (by decide) ?_
        refine j_iald EE 2 0 rfl rfl (vp_in_nI (n := 1) (by omega) (by decide)) dX10_statement_85 ?_
        refine j_topE (congrArg (sA (updN (updN E 0 (fig (ltr ft le (sp + 1)) 5 - 1)) 1 0)) (nI_clamp (n := 1) (by omega))) ?_
        refine j_topE (y := nI 0) (by rw [sA_n (by omega)]; simp only [updN]; (repeat (first | rw [if_pos (by omega)] | rw [if_neg (by omega)]))) ?_
        refine j_if_le EE 102 dX10_statement_86 (by decide) (fun c86 => ?_) (fun c86 => absurd (by decide) c86)
        have n86 : 0 ≤ 0 := (nI_leI (a := 0) (b := 0) (by omega) (by omega)).mp c86
        refine j_iconst (v := nI 0) EE dX10_statement_102 (by decide) ?_
        have hR : s1M ft le E sp = none := by
          unfold s1M
          (repeat (first | rw [if_pos (by omega)] | rw [if_neg (by omega)]))
        exact j_zret EE FF (by decide) dX10_statement_103 ((sp + 1) + 1, (sA (updN (updN E 0 (fig (ltr ft le (sp + 1)) 5 - 1)) 1 0))) ⟨fun q hq => by rw [hR] at hq; exact absurd hq (by simp), sA_99 (un_99 (by omega) (un_99 (by omega) hE9))⟩ (by rw [hR]; rfl) rfl
      · skip
        have n43 : ¬ (fig (ltr ft le (sp + 1)) 5 - 1) ≤ 0 := fun hq => c43 ((nI_leI (a := (fig (ltr ft le (sp + 1)) 5 - 1)) (b := 0) (by omega) (by omega)).mpr hq)
        refine j_aload_n EE 1 dX10_statement_46 rfl rfl ?_
        refine j_V2 (n9 := 14) EE (c_X10_letter h F Q ft B Bt a1 a2 a3 a4 a5 (sA (updN E 0 (fig (ltr ft le (sp + 1)) 5 - 1))) W M km le ((sp + 1) + 1) ro hft (by omega) (by omega)) gX10_statement_X10_letter ⟨rfl, hd_X10_letter⟩ rfl ⟨rfl, rfl⟩ ⟨by decide, by decide⟩ rfl [0, 1, 2, 3, 4, 5, 6, 7, 8, 9, 10, 11, 12, 13] rfl [] [((h 0), .inr (6, [.ref ((h 1)), .ref ((h 2)), .ref ((h 3)), .int (nI km), .ref ((h 4)), .int (nI le), .int (nI (((sp + 1) + 1) + 1)), .ref ((h 5)), .ref ((h 6)), .int (nI ro), .ref ((h 7)), .ref ((h 8)), .ref ((h 9)), .ref ((h 10)), .ref ((h 11)), .ref ((h 12)), .ref ((h 13))])), ((h 1), .inl (cI, 99, .inl (sA F))), ((h 2), .inl (cI, 99, .inl (sA (updN E 0 (fig (ltr ft le (sp + 1)) 5 - 1))))), ((h 3), .inl (cI, 594, .inl (kA Q))), ((h 4), .inl (cI, 200, .inl (fun zz => nI (ft zz)))), ((h 5), .inl (cI, 12, .inl (fun zz => nI (B zz)))), ((h 6), .inl (cI, 12, .inl (fun zz => nI (Bt zz)))), ((h 7), .inl (cJ, 16, .inr (.inl W))), ((h 8), .inl (cJ, 16, .inr (.inl M))), ((h 9), .inl (cI, 9, .inl (fun zz => nI (a1 zz)))), ((h 10), .inl (cI, 9, .inl (fun zz => nI (a2 zz)))), ((h 11), .inl (cI, 198, .inl (fun zz => nI (a3 zz)))), ((h 12), .inl (cI, 9, .inl (fun zz => nI (a4 zz)))), ((h 13), .inl (cI, 9, .inl (fA a5)))] (fun _ => rfl) [] [(h 0), (h 1), (h 2), (h 3), (h 4), (h 5), (h 6), (h 7), (h 8), (h 9), (h 10), (h 11), (h 12), (h 13)] rfl rfl rfl rfl rfl (by decide) (by decide) 0 rfl rfl rfl (Nat.le_of_ble_eq_true rfl) dX10_statement_47 (fun u_47 h_47 => ?_) rfl
        show J l _ D ε _ _ _ (.int (nI (ltr ft le ((sp + 1) + 1))) :: _)
        refine j_bipush (v := nI 44) EE dX10_statement_50 (by decide) ?_
        refine j_icmp_ne EE 59 dX10_statement_52 (by decide) (fun c52 => ?_) (fun c52 => ?_)
        · skip
          have n52 : (ltr ft le ((sp + 1) + 1)) ≠ 44 := fun hq => c52 ((nI_eq (a := (ltr ft le ((sp + 1) + 1))) (b := 44) (by have := ltr_lt (le := le) (sp := ((sp + 1) + 1)) hft; omega) (by have := ltr_lt (le := le) (sp := ((sp + 1) + 1)) hft; omega)).mpr hq)
          refine j_iconst (v := nI 0) EE dX10_statement_59 (by decide) ?_
          refine j_istore_n EE [(3, _), (2, _), (0, _), (1, _)] dX10_statement_60 rfl (Nat.lt_of_lt_of_eq (by decide) hL.symm) rfl ?_
          refine j_aload_n EE 2 dX10_statement_61 rfl rfl ?_
          refine j_get (T := TX10) EE iw_X10_statement_X10 0 rfl rfl 1 (by decide) lk_X10_statement_13 rfl dX10_statement_62 ?_
          refine j_iconst (v := nI 1) EE dX10_statement_65 (by decide) ?_
          refine j_iload_n EE 0 dX10_statement_66 rfl rfl ?_
          refine j_if_eq EE 78 dX10_statement_67 (by decide) (fun c67 => ?_) (fun c67 => absurd (by decide) c67)
          have n67 : 0 = 0 := (nI_eq (a := 0) (b := 0) (by omega) (by omega)).mp c67
          refine j_iconst (v := nI 0) EE dX10_statement_78 (by decide) ?_
          refine j_iast (ws' := [((h 0), .inr (6, [.ref ((h 1)), .ref ((h 2)), .ref ((h 3)), .int (nI km), .ref ((h 4)), .int (nI le), .int (nI (((sp + 1) + 1) + 1)), .ref ((h 5)), .ref ((h 6)), .int (nI ro), .ref ((h 7)), .ref ((h 8)), .ref ((h 9)), .ref ((h 10)), .ref ((h 11)), .ref ((h 12)), .ref ((h 13))])), ((h 1), .inl (cI, 99, .inl (sA F))), ((h 2), .inl (cI, 99, .inl (sA (updN (updN E 0 (fig (ltr ft le (sp + 1)) 5 - 1)) 1 0)))), ((h 3), .inl (cI, 594, .inl (kA Q))), ((h 4), .inl (cI, 200, .inl (fun zz => nI (ft zz)))), ((h 5), .inl (cI, 12, .inl (fun zz => nI (B zz)))), ((h 6), .inl (cI, 12, .inl (fun zz => nI (Bt zz)))), ((h 7), .inl (cJ, 16, .inr (.inl W))), ((h 8), .inl (cJ, 16, .inr (.inl M))), ((h 9), .inl (cI, 9, .inl (fun zz => nI (a1 zz)))), ((h 10), .inl (cI, 9, .inl (fun zz => nI (a2 zz)))), ((h 11), .inl (cI, 198, .inl (fun zz => nI (a3 zz)))), ((h 12), .inl (cI, 9, .inl (fun zz => nI (a4 zz)))), ((h 13), .inl (cI, 9, .inl (fA a5)))]) EE 2 0 rfl rfl (vp_in_nI (n := 1) (by omega) (by decide)) (by rw [nI_clamp (by omega), upd_sAn (by omega)]; rfl) dX10_statement_79 ?_
          refine j_aload_n EE 2 dX10_statement_80 rfl rfl ?_
          refine j_get (T := TX10) EE iw_X10_statement_X10 0 rfl rfl 1 (by decide) lk_X10_statement_13 rfl dX10_statement_81 ?_
          refine j_iconst (v := nI 1) EE dX10_statement_84 (by decide) ?_
          refine j_iald EE 2 0 rfl rfl (vp_in_nI (n := 1) (by omega) (by decide)) dX10_statement_85 ?_
          refine j_topE (congrArg (sA (updN (updN E 0 (fig (ltr ft le (sp + 1)) 5 - 1)) 1 0)) (nI_clamp (n := 1) (by omega))) ?_
          refine j_topE (y := nI 0) (by rw [sA_n (by omega)]; simp only [updN]; (repeat (first | rw [if_pos (by omega)] | rw [if_neg (by omega)]))) ?_
          refine j_if_le EE 102 dX10_statement_86 (by decide) (fun c86 => ?_) (fun c86 => absurd (by decide) c86)
          have n86 : 0 ≤ 0 := (nI_leI (a := 0) (b := 0) (by omega) (by omega)).mp c86
          refine j_iconst (v := nI 0) EE dX10_statement_102 (by decide) ?_
          have hR : s1M ft le E sp = none := by
            unfold s1M
            (repeat (first | rw [if_pos (by omega)] | rw [if_neg (by omega)]))
          exact j_zret EE FF (by decide) dX10_statement_103 (((sp + 1) + 1) + 1, (sA (updN (updN E 0 (fig (ltr ft le (sp + 1)) 5 - 1)) 1 0))) ⟨fun q hq => by rw [hR] at hq; exact absurd hq (by simp), sA_99 (un_99 (by omega) (un_99 (by omega) hE9))⟩ (by rw [hR]; rfl) rfl
        · skip
          have n52 : (ltr ft le ((sp + 1) + 1)) = 44 := (nI_eq (a := (ltr ft le ((sp + 1) + 1))) (b := 44) (by have := ltr_lt (le := le) (sp := ((sp + 1) + 1)) hft; omega) (by have := ltr_lt (le := le) (sp := ((sp + 1) + 1)) hft; omega)).mp c52
          refine j_iconst (v := nI 1) EE dX10_statement_55 (by decide) ?_
          refine j_goto EE 60 dX10_statement_56 (by decide) ?_
          refine j_istore_n EE [(3, _), (2, _), (0, _), (1, _)] dX10_statement_60 rfl (Nat.lt_of_lt_of_eq (by decide) hL.symm) rfl ?_
          refine j_aload_n EE 2 dX10_statement_61 rfl rfl ?_
          refine j_get (T := TX10) EE iw_X10_statement_X10 0 rfl rfl 1 (by decide) lk_X10_statement_13 rfl dX10_statement_62 ?_
          refine j_iconst (v := nI 1) EE dX10_statement_65 (by decide) ?_
          refine j_iload_n EE 0 dX10_statement_66 rfl rfl ?_
          refine j_if_eq EE 78 dX10_statement_67 (by decide) (fun c67 => absurd c67 (by decide)) (fun c67 => ?_)
          have n67 : 1 ≠ 0 := fun hq => c67 ((nI_eq (a := 1) (b := 0) (by omega) (by omega)).mpr hq)
          refine j_aload_n EE 2 dX10_statement_70 rfl rfl ?_
          refine j_iconst (v := nI 4) EE dX10_statement_71 (by decide) ?_
          refine j_V2 (n9 := 14) EE (c_X10_figure h F Q ft B Bt a1 a2 a3 a4 a5 (sA (updN E 0 (fig (ltr ft le (sp + 1)) 5 - 1))) W M km le (((sp + 1) + 1) + 1) ro 4 hft (by omega) (by omega) (by omega)) gX10_statement_X10_figure ⟨rfl, hd_X10_figure⟩ rfl ⟨rfl, rfl⟩ ⟨by decide, by decide⟩ rfl [0, 1, 2, 3, 4, 5, 6, 7, 8, 9, 10, 11, 12, 13] rfl [] [((h 0), .inr (6, [.ref ((h 1)), .ref ((h 2)), .ref ((h 3)), .int (nI km), .ref ((h 4)), .int (nI le), .int (nI ((((sp + 1) + 1) + 1) + 1)), .ref ((h 5)), .ref ((h 6)), .int (nI ro), .ref ((h 7)), .ref ((h 8)), .ref ((h 9)), .ref ((h 10)), .ref ((h 11)), .ref ((h 12)), .ref ((h 13))])), ((h 1), .inl (cI, 99, .inl (sA F))), ((h 2), .inl (cI, 99, .inl (sA (updN E 0 (fig (ltr ft le (sp + 1)) 5 - 1))))), ((h 3), .inl (cI, 594, .inl (kA Q))), ((h 4), .inl (cI, 200, .inl (fun zz => nI (ft zz)))), ((h 5), .inl (cI, 12, .inl (fun zz => nI (B zz)))), ((h 6), .inl (cI, 12, .inl (fun zz => nI (Bt zz)))), ((h 7), .inl (cJ, 16, .inr (.inl W))), ((h 8), .inl (cJ, 16, .inr (.inl M))), ((h 9), .inl (cI, 9, .inl (fun zz => nI (a1 zz)))), ((h 10), .inl (cI, 9, .inl (fun zz => nI (a2 zz)))), ((h 11), .inl (cI, 198, .inl (fun zz => nI (a3 zz)))), ((h 12), .inl (cI, 9, .inl (fun zz => nI (a4 zz)))), ((h 13), .inl (cI, 9, .inl (fA a5)))] (fun _ => rfl) [] [(h 0), (h 1), (h 2), (h 3), (h 4), (h 5), (h 6), (h 7), (h 8), (h 9), (h 10), (h 11), (h 12), (h 13)] rfl rfl rfl rfl rfl (by decide) (by decide) 0 rfl rfl rfl (Nat.le_of_ble_eq_true rfl) dX10_statement_72 (fun u_72 h_72 => ?_) rfl
          show J l _ D ε _ _ _ (.int (nI (fig (ltr ft le (((sp + 1) + 1) + 1)) 4) - nI 1) :: _)
          rcases Nat.eq_zero_or_pos (fig (ltr ft le (((sp + 1) + 1) + 1)) 4) with z72 | z72
          · skip
            rw [z72]
            refine j_goto EE 79 dX10_statement_75 (by decide) ?_
            refine j_iast (ws' := [((h 0), .inr (6, [.ref ((h 1)), .ref ((h 2)), .ref ((h 3)), .int (nI km), .ref ((h 4)), .int (nI le), .int (nI ((((sp + 1) + 1) + 1) + 1)), .ref ((h 5)), .ref ((h 6)), .int (nI ro), .ref ((h 7)), .ref ((h 8)), .ref ((h 9)), .ref ((h 10)), .ref ((h 11)), .ref ((h 12)), .ref ((h 13))])), ((h 1), .inl (cI, 99, .inl (sA F))), ((h 2), .inl (cI, 99, .inl (upd (sA (updN E 0 (fig (ltr ft le (sp + 1)) 5 - 1))) 1 (nI 0 - nI 1)))), ((h 3), .inl (cI, 594, .inl (kA Q))), ((h 4), .inl (cI, 200, .inl (fun zz => nI (ft zz)))), ((h 5), .inl (cI, 12, .inl (fun zz => nI (B zz)))), ((h 6), .inl (cI, 12, .inl (fun zz => nI (Bt zz)))), ((h 7), .inl (cJ, 16, .inr (.inl W))), ((h 8), .inl (cJ, 16, .inr (.inl M))), ((h 9), .inl (cI, 9, .inl (fun zz => nI (a1 zz)))), ((h 10), .inl (cI, 9, .inl (fun zz => nI (a2 zz)))), ((h 11), .inl (cI, 198, .inl (fun zz => nI (a3 zz)))), ((h 12), .inl (cI, 9, .inl (fun zz => nI (a4 zz)))), ((h 13), .inl (cI, 9, .inl (fA a5)))]) EE 2 0 rfl rfl (vp_in_nI (n := 1) (by omega) (by decide)) (by rw [nI_clamp (by omega)]; rfl) dX10_statement_79 ?_
            refine j_aload_n EE 2 dX10_statement_80 rfl rfl ?_
            refine j_get (T := TX10) EE iw_X10_statement_X10 0 rfl rfl 1 (by decide) lk_X10_statement_13 rfl dX10_statement_81 ?_
            refine j_iconst (v := nI 1) EE dX10_statement_84 (by decide) ?_
            refine j_iald EE 2 0 rfl rfl (vp_in_nI (n := 1) (by omega) (by decide)) dX10_statement_85 ?_
            refine j_topE (congrArg (upd (sA (updN E 0 (fig (ltr ft le (sp + 1)) 5 - 1))) 1 (nI 0 - nI 1)) (nI_clamp (n := 1) (by omega))) ?_
            refine j_topE (y := nI 0 - nI 1) (by unfold upd; rw [if_pos rfl]) ?_
            refine j_if_le EE 102 dX10_statement_86 (by decide) (fun c86 => ?_) (fun c86 => absurd (by decide) c86)
            refine j_iconst (v := nI 0) EE dX10_statement_102 (by decide) ?_
            have hR : s1M ft le E sp = none := by
              unfold s1M
              (repeat (first | rw [if_pos (by omega)] | rw [if_neg (by omega)]))
            exact j_zret EE FF (by decide) dX10_statement_103 ((((sp + 1) + 1) + 1) + 1, (upd (sA (updN E 0 (fig (ltr ft le (sp + 1)) 5 - 1))) 1 (nI 0 - nI 1))) ⟨fun q hq => by rw [hR] at hq; exact absurd hq (by simp), up_99 (by omega) (sA_99 (un_99 (by omega) hE9))⟩ (by rw [hR]; rfl) rfl
          · skip
            have g72 := fig_le (ltr ft le (((sp + 1) + 1) + 1)) 4
            rw [show nI (fig (ltr ft le (((sp + 1) + 1) + 1)) 4) - nI 1 = nI (fig (ltr ft le (((sp + 1) + 1) + 1)) 4 - 1) from pk_sub (by omega)]
            refine j_goto EE 79 dX10_statement_75 (by decide) ?_
            refine j_iast (ws' := [((h 0), .inr (6, [.ref ((h 1)), .ref ((h 2)), .ref ((h 3)), .int (nI km), .ref ((h 4)), .int (nI le), .int (nI ((((sp + 1) + 1) + 1) + 1)), .ref ((h 5)), .ref ((h 6)), .int (nI ro), .ref ((h 7)), .ref ((h 8)), .ref ((h 9)), .ref ((h 10)), .ref ((h 11)), .ref ((h 12)), .ref ((h 13))])), ((h 1), .inl (cI, 99, .inl (sA F))), ((h 2), .inl (cI, 99, .inl (sA (updN (updN E 0 (fig (ltr ft le (sp + 1)) 5 - 1)) 1 (fig (ltr ft le (((sp + 1) + 1) + 1)) 4 - 1))))), ((h 3), .inl (cI, 594, .inl (kA Q))), ((h 4), .inl (cI, 200, .inl (fun zz => nI (ft zz)))), ((h 5), .inl (cI, 12, .inl (fun zz => nI (B zz)))), ((h 6), .inl (cI, 12, .inl (fun zz => nI (Bt zz)))), ((h 7), .inl (cJ, 16, .inr (.inl W))), ((h 8), .inl (cJ, 16, .inr (.inl M))), ((h 9), .inl (cI, 9, .inl (fun zz => nI (a1 zz)))), ((h 10), .inl (cI, 9, .inl (fun zz => nI (a2 zz)))), ((h 11), .inl (cI, 198, .inl (fun zz => nI (a3 zz)))), ((h 12), .inl (cI, 9, .inl (fun zz => nI (a4 zz)))), ((h 13), .inl (cI, 9, .inl (fA a5)))]) EE 2 0 rfl rfl (vp_in_nI (n := 1) (by omega) (by decide)) (by rw [nI_clamp (by omega), upd_sAn (by omega)]; rfl) dX10_statement_79 ?_
            refine j_aload_n EE 2 dX10_statement_80 rfl rfl ?_
            refine j_get (T := TX10) EE iw_X10_statement_X10 0 rfl rfl 1 (by decide) lk_X10_statement_13 rfl dX10_statement_81 ?_
            refine j_iconst (v := nI 1) EE dX10_statement_84 (by decide) ?_
            refine j_iald EE 2 0 rfl rfl (vp_in_nI (n := 1) (by omega) (by decide)) dX10_statement_85 ?_
            refine j_topE (congrArg (sA (updN (updN E 0 (fig (ltr ft le (sp + 1)) 5 - 1)) 1 (fig (ltr ft le (((sp + 1) + 1) + 1)) 4 - 1))) (nI_clamp (n := 1) (by omega))) ?_
            refine j_topE (y := nI (fig (ltr ft le (((sp + 1) + 1) + 1)) 4 - 1)) (by rw [sA_n (by omega)]; simp only [updN]; (repeat (first | rw [if_pos (by omega)] | rw [if_neg (by omega)]))) ?_
            refine j_if_le EE 102 dX10_statement_86 (by decide) (fun c86 => ?_) (fun c86 => ?_)
            · skip
              have n86 : (fig (ltr ft le (((sp + 1) + 1) + 1)) 4 - 1) ≤ 0 := (nI_leI (a := (fig (ltr ft le (((sp + 1) + 1) + 1)) 4 - 1)) (b := 0) (by omega) (by omega)).mp c86
              refine j_iconst (v := nI 0) EE dX10_statement_102 (by decide) ?_
              have hR : s1M ft le E sp = none := by
                unfold s1M
                (repeat (first | rw [if_pos (by omega)] | rw [if_neg (by omega)]))
              exact j_zret EE FF (by decide) dX10_statement_103 ((((sp + 1) + 1) + 1) + 1, (sA (updN (updN E 0 (fig (ltr ft le (sp + 1)) 5 - 1)) 1 (fig (ltr ft le (((sp + 1) + 1) + 1)) 4 - 1)))) ⟨fun q hq => by rw [hR] at hq; exact absurd hq (by simp), sA_99 (un_99 (by omega) (un_99 (by omega) hE9))⟩ (by rw [hR]; rfl) rfl
            · skip
              have n86 : ¬ (fig (ltr ft le (((sp + 1) + 1) + 1)) 4 - 1) ≤ 0 := fun hq => c86 ((nI_leI (a := (fig (ltr ft le (((sp + 1) + 1) + 1)) 4 - 1)) (b := 0) (by omega) (by omega)).mpr hq)
              refine j_aload_n EE 2 dX10_statement_89 rfl rfl ?_
              refine j_V2 (n9 := 14) EE (c_X10_letter h F Q ft B Bt a1 a2 a3 a4 a5 (sA (updN (updN E 0 (fig (ltr ft le (sp + 1)) 5 - 1)) 1 (fig (ltr ft le (((sp + 1) + 1) + 1)) 4 - 1))) W M km le ((((sp + 1) + 1) + 1) + 1) ro hft (by omega) (by omega)) gX10_statement_X10_letter ⟨rfl, hd_X10_letter⟩ rfl ⟨rfl, rfl⟩ ⟨by decide, by decide⟩ rfl [0, 1, 2, 3, 4, 5, 6, 7, 8, 9, 10, 11, 12, 13] rfl [] [((h 0), .inr (6, [.ref ((h 1)), .ref ((h 2)), .ref ((h 3)), .int (nI km), .ref ((h 4)), .int (nI le), .int (nI (((((sp + 1) + 1) + 1) + 1) + 1)), .ref ((h 5)), .ref ((h 6)), .int (nI ro), .ref ((h 7)), .ref ((h 8)), .ref ((h 9)), .ref ((h 10)), .ref ((h 11)), .ref ((h 12)), .ref ((h 13))])), ((h 1), .inl (cI, 99, .inl (sA F))), ((h 2), .inl (cI, 99, .inl (sA (updN (updN E 0 (fig (ltr ft le (sp + 1)) 5 - 1)) 1 (fig (ltr ft le (((sp + 1) + 1) + 1)) 4 - 1))))), ((h 3), .inl (cI, 594, .inl (kA Q))), ((h 4), .inl (cI, 200, .inl (fun zz => nI (ft zz)))), ((h 5), .inl (cI, 12, .inl (fun zz => nI (B zz)))), ((h 6), .inl (cI, 12, .inl (fun zz => nI (Bt zz)))), ((h 7), .inl (cJ, 16, .inr (.inl W))), ((h 8), .inl (cJ, 16, .inr (.inl M))), ((h 9), .inl (cI, 9, .inl (fun zz => nI (a1 zz)))), ((h 10), .inl (cI, 9, .inl (fun zz => nI (a2 zz)))), ((h 11), .inl (cI, 198, .inl (fun zz => nI (a3 zz)))), ((h 12), .inl (cI, 9, .inl (fun zz => nI (a4 zz)))), ((h 13), .inl (cI, 9, .inl (fA a5)))] (fun _ => rfl) [] [(h 0), (h 1), (h 2), (h 3), (h 4), (h 5), (h 6), (h 7), (h 8), (h 9), (h 10), (h 11), (h 12), (h 13)] rfl rfl rfl rfl rfl (by decide) (by decide) 0 rfl rfl rfl (Nat.le_of_ble_eq_true rfl) dX10_statement_90 (fun u_90 h_90 => ?_) rfl
              show J l _ D ε _ _ _ (.int (nI (ltr ft le ((((sp + 1) + 1) + 1) + 1))) :: _)
              refine j_bipush (v := nI 59) EE dX10_statement_93 (by decide) ?_
              refine j_icmp_ne EE 102 dX10_statement_95 (by decide) (fun c95 => ?_) (fun c95 => ?_)
              · skip
                have n95 : (ltr ft le ((((sp + 1) + 1) + 1) + 1)) ≠ 59 := fun hq => c95 ((nI_eq (a := (ltr ft le ((((sp + 1) + 1) + 1) + 1))) (b := 59) (by have := ltr_lt (le := le) (sp := ((((sp + 1) + 1) + 1) + 1)) hft; omega) (by have := ltr_lt (le := le) (sp := ((((sp + 1) + 1) + 1) + 1)) hft; omega)).mpr hq)
                refine j_iconst (v := nI 0) EE dX10_statement_102 (by decide) ?_
                have hR : s1M ft le E sp = none := by
                  unfold s1M
                  (repeat (first | rw [if_pos (by omega)] | rw [if_neg (by omega)]))
                exact j_zret EE FF (by decide) dX10_statement_103 (((((sp + 1) + 1) + 1) + 1) + 1, (sA (updN (updN E 0 (fig (ltr ft le (sp + 1)) 5 - 1)) 1 (fig (ltr ft le (((sp + 1) + 1) + 1)) 4 - 1)))) ⟨fun q hq => by rw [hR] at hq; exact absurd hq (by simp), sA_99 (un_99 (by omega) (un_99 (by omega) hE9))⟩ (by rw [hR]; rfl) rfl
              · skip
                have n95 : (ltr ft le ((((sp + 1) + 1) + 1) + 1)) = 59 := (nI_eq (a := (ltr ft le ((((sp + 1) + 1) + 1) + 1))) (b := 59) (by have := ltr_lt (le := le) (sp := ((((sp + 1) + 1) + 1) + 1)) hft; omega) (by have := ltr_lt (le := le) (sp := ((((sp + 1) + 1) + 1) + 1)) hft; omega)).mp c95
                refine j_iconst (v := nI 1) EE dX10_statement_98 (by decide) ?_
                refine j_goto EE 103 dX10_statement_99 (by decide) ?_
                have hR : s1M ft le E sp = some (((((sp + 1) + 1) + 1) + 1) + 1, updN (updN E 0 (fig (ltr ft le (sp + 1)) 5 - 1)) 1 (fig (ltr ft le (((sp + 1) + 1) + 1)) 4 - 1)) := by
                  unfold s1M
                  (repeat (first | rw [if_pos (by omega)] | rw [if_neg (by omega)]))
                exact j_zret EE FF (by decide) dX10_statement_103 (((((sp + 1) + 1) + 1) + 1) + 1, (sA (updN (updN E 0 (fig (ltr ft le (sp + 1)) 5 - 1)) 1 (fig (ltr ft le (((sp + 1) + 1) + 1)) 4 - 1)))) ⟨fun q hq => by rw [hR] at hq; rw [← Option.some.inj hq], sA_99 (un_99 (by omega) (un_99 (by omega) hE9))⟩ (by rw [hR]; rfl) rfl

theorem hd_X10_ruleIs : yX10_ruleIs.cls ≠ "java/lang/invoke/MethodHandle" ∧ yX10_ruleIs.cls ≠ "java/lang/invoke/VarHandle" ∧ (parseMethodDescriptor yX10_ruleIs.desc).map (fun d => d.parameters.length) = some 0 := by decide +kernel
set_option maxHeartbeats 4000000 in
set_option maxRecDepth 100000 in
theorem c_X10_statement0 (h F Q ft B Bt a1 a2 a3 a4 a5 : Nat → Nat) (fr : Nat → Int32) (W M : Nat → Int64) (km le sp ro : Nat) (E : Nat → Nat) (hft : ∀ i, ft i < 65536) (hle : le ≤ 200) (hsp : sp < 250) (hE : eOk E) : Ct l yX10_statement wsX10_statement (rmD (3)) D [(cI, .int), (cC, .char), (cJ, .long), (cG, .object "PushdownGameSolver$Game")] [.ref ((h 0)), .int (nI 0)] [((h 0), .inr (6, [.ref ((h 1)), .ref ((h 2)), .ref ((h 3)), .int (nI km), .ref ((h 4)), .int (nI le), .int (nI sp), .ref ((h 5)), .ref ((h 6)), .int (nI ro), .ref ((h 7)), .ref ((h 8)), .ref ((h 9)), .ref ((h 10)), .ref ((h 11)), .ref ((h 12)), .ref ((h 13))])), ((h 1), .inl (cI, 99, .inl (sA F))), ((h 2), .inl (cI, 99, .inl (sA E))), ((h 3), .inl (cI, 594, .inl (kA Q))), ((h 4), .inl (cI, 200, .inl (fun zz => nI (ft zz)))), ((h 5), .inl (cI, 12, .inl (fun zz => nI (B zz)))), ((h 6), .inl (cI, 12, .inl (fun zz => nI (Bt zz)))), ((h 7), .inl (cJ, 16, .inr (.inl W))), ((h 8), .inl (cJ, 16, .inr (.inl M))), ((h 9), .inl (cI, 9, .inl (fun zz => nI (a1 zz)))), ((h 10), .inl (cI, 9, .inl (fun zz => nI (a2 zz)))), ((h 11), .inl (cI, 198, .inl (fun zz => nI (a3 zz)))), ((h 12), .inl (cI, 9, .inl (fun zz => nI (a4 zz)))), ((h 13), .inl (cI, 9, .inl (fA a5)))] (S := RT) (fun u => (∀ q, s0M ft le E sp = some q → u = (q.1, sA q.2)) ∧ ∀ i, 99 ≤ i → u.2 i = nI 0) (fun u => some (.int (nI (b2n (s0M ft le E sp).isSome)))) (fun u => [((h 0), .inr (6, [.ref ((h 1)), .ref ((h 2)), .ref ((h 3)), .int (nI km), .ref ((h 4)), .int (nI le), .int (nI u.1), .ref ((h 5)), .ref ((h 6)), .int (nI ro), .ref ((h 7)), .ref ((h 8)), .ref ((h 9)), .ref ((h 10)), .ref ((h 11)), .ref ((h 12)), .ref ((h 13))])), ((h 1), .inl (cI, 99, .inl (sA F))), ((h 2), .inl (cI, 99, .inl u.2)), ((h 3), .inl (cI, 594, .inl (kA Q))), ((h 4), .inl (cI, 200, .inl (fun zz => nI (ft zz)))), ((h 5), .inl (cI, 12, .inl (fun zz => nI (B zz)))), ((h 6), .inl (cI, 12, .inl (fun zz => nI (Bt zz)))), ((h 7), .inl (cJ, 16, .inr (.inl W))), ((h 8), .inl (cJ, 16, .inr (.inl M))), ((h 9), .inl (cI, 9, .inl (fun zz => nI (a1 zz)))), ((h 10), .inl (cI, 9, .inl (fun zz => nI (a2 zz)))), ((h 11), .inl (cI, 198, .inl (fun zz => nI (a3 zz)))), ((h 12), .inl (cI, 9, .inl (fun zz => nI (a4 zz)))), ((h 13), .inl (cI, 9, .inl (fA a5)))]) := by
  refine Ct.of (lv := [(0, .ref ((h 0))), (1, .int (nI 0))]) (by decide) rfl (Nat.le_of_ble_eq_true rfl) rfl ?_
  intro ε hL EE FF
  obtain ⟨hEb, hE0, hE1, hE2, hE3, hE4, hE9⟩ := hE
  refine j_aload_n EE 0 dX10_statement_0 rfl rfl ?_
  refine j_V2 (n9 := 14) EE (c_X10_letter h F Q ft B Bt a1 a2 a3 a4 a5 (sA E) W M km le sp ro hft (by omega) (by omega)) gX10_statement_X10_letter ⟨rfl, hd_X10_letter⟩ rfl ⟨rfl, rfl⟩ ⟨by decide, by decide⟩ rfl [0, 1, 2, 3, 4, 5, 6, 7, 8, 9, 10, 11, 12, 13] rfl [] [((h 0), .inr (6, [.ref ((h 1)), .ref ((h 2)), .ref ((h 3)), .int (nI km), .ref ((h 4)), .int (nI le), .int (nI (sp + 1)), .ref ((h 5)), .ref ((h 6)), .int (nI ro), .ref ((h 7)), .ref ((h 8)), .ref ((h 9)), .ref ((h 10)), .ref ((h 11)), .ref ((h 12)), .ref ((h 13))])), ((h 1), .inl (cI, 99, .inl (sA F))), ((h 2), .inl (cI, 99, .inl (sA E))), ((h 3), .inl (cI, 594, .inl (kA Q))), ((h 4), .inl (cI, 200, .inl (fun zz => nI (ft zz)))), ((h 5), .inl (cI, 12, .inl (fun zz => nI (B zz)))), ((h 6), .inl (cI, 12, .inl (fun zz => nI (Bt zz)))), ((h 7), .inl (cJ, 16, .inr (.inl W))), ((h 8), .inl (cJ, 16, .inr (.inl M))), ((h 9), .inl (cI, 9, .inl (fun zz => nI (a1 zz)))), ((h 10), .inl (cI, 9, .inl (fun zz => nI (a2 zz)))), ((h 11), .inl (cI, 198, .inl (fun zz => nI (a3 zz)))), ((h 12), .inl (cI, 9, .inl (fun zz => nI (a4 zz)))), ((h 13), .inl (cI, 9, .inl (fA a5)))] (fun _ => rfl) [] [(h 0), (h 1), (h 2), (h 3), (h 4), (h 5), (h 6), (h 7), (h 8), (h 9), (h 10), (h 11), (h 12), (h 13)] rfl rfl rfl rfl rfl (by decide) (by decide) 0 rfl rfl rfl (Nat.le_of_ble_eq_true rfl) dX10_statement_1 (fun u_1 h_1 => ?_) rfl
  show J l _ D ε _ _ _ (.int (nI (ltr ft le sp)) :: _)
  refine j_istore_n EE [(2, _), (0, _), (1, _)] dX10_statement_4 rfl (Nat.lt_of_lt_of_eq (by decide) hL.symm) rfl ?_
  refine j_iload_n EE 0 dX10_statement_5 rfl rfl ?_
  refine j_bipush (v := nI 103) EE dX10_statement_6 (by decide) ?_
  refine j_icmp_ne EE 15 dX10_statement_8 (by decide) (fun c8 => ?_) (fun c8 => ?_)
  · skip
    have n8 : (ltr ft le sp) ≠ 103 := fun hq => c8 ((nI_eq (a := (ltr ft le sp)) (b := 103) (by have := ltr_lt (le := le) (sp := sp) hft; omega) (by have := ltr_lt (le := le) (sp := sp) hft; omega)).mpr hq)
    refine j_iconst (v := nI 0) EE dX10_statement_15 (by decide) ?_
    refine j_iload_n EE 2 dX10_statement_16 rfl rfl ?_
    refine j_icmp_eq EE 22 dX10_statement_17 (by decide) (fun c17 => ?_) (fun c17 => absurd (by decide) c17)
    have n17 : 0 = 0 := (nI_eq (a := 0) (b := 0) (by omega) (by omega)).mp c17
    refine j_iload_n EE 2 dX10_statement_22 rfl rfl ?_
    refine j_if_eq EE 104 dX10_statement_23 (by decide) (fun c23 => ?_) (fun c23 => absurd (by decide) c23)
    have n23 : 0 = 0 := (nI_eq (a := 0) (b := 0) (by omega) (by omega)).mp c23
    refine j_iload_n EE 0 dX10_statement_104 rfl rfl ?_
    refine j_bipush (v := nI 111) EE dX10_statement_105 (by decide) ?_
    refine j_icmp_eq EE 116 dX10_statement_107 (by decide) (fun c107 => ?_) (fun c107 => ?_)
    · skip
      have n107 : (ltr ft le sp) = 111 := (nI_eq (a := (ltr ft le sp)) (b := 111) (by have := ltr_lt (le := le) (sp := sp) hft; omega) (by have := ltr_lt (le := le) (sp := sp) hft; omega)).mp c107
      refine j_aload_n EE 1 dX10_statement_116 rfl rfl ?_
      refine j_aload_n EE 1 dX10_statement_117 rfl rfl ?_
      refine j_get (T := TX10) EE iw_X10_statement_X10 0 rfl rfl 1 (by decide) lk_X10_statement_13 rfl dX10_statement_118 ?_
      refine j_iconst (v := nI 0) EE dX10_statement_121 (by decide) ?_
      refine j_iald EE 2 0 rfl rfl (vp_in_nI (n := 0) (by omega) (by decide)) dX10_statement_122 ?_
      refine j_topE (congrArg (sA E) (nI_clamp (n := 0) (by omega))) ?_
      refine j_topE (y := nI (E 0)) (sA_n (by omega)) ?_
      refine j_V2 (n9 := 14) EE (c_X10_figure h F Q ft B Bt a1 a2 a3 a4 a5 (sA E) W M km le (sp + 1) ro (E 0) hft (by omega) (by omega) (by omega)) gX10_statement_X10_figure ⟨rfl, hd_X10_figure⟩ rfl ⟨rfl, rfl⟩ ⟨by decide, by decide⟩ rfl [0, 1, 2, 3, 4, 5, 6, 7, 8, 9, 10, 11, 12, 13] rfl [] [((h 0), .inr (6, [.ref ((h 1)), .ref ((h 2)), .ref ((h 3)), .int (nI km), .ref ((h 4)), .int (nI le), .int (nI ((sp + 1) + 1)), .ref ((h 5)), .ref ((h 6)), .int (nI ro), .ref ((h 7)), .ref ((h 8)), .ref ((h 9)), .ref ((h 10)), .ref ((h 11)), .ref ((h 12)), .ref ((h 13))])), ((h 1), .inl (cI, 99, .inl (sA F))), ((h 2), .inl (cI, 99, .inl (sA E))), ((h 3), .inl (cI, 594, .inl (kA Q))), ((h 4), .inl (cI, 200, .inl (fun zz => nI (ft zz)))), ((h 5), .inl (cI, 12, .inl (fun zz => nI (B zz)))), ((h 6), .inl (cI, 12, .inl (fun zz => nI (Bt zz)))), ((h 7), .inl (cJ, 16, .inr (.inl W))), ((h 8), .inl (cJ, 16, .inr (.inl M))), ((h 9), .inl (cI, 9, .inl (fun zz => nI (a1 zz)))), ((h 10), .inl (cI, 9, .inl (fun zz => nI (a2 zz)))), ((h 11), .inl (cI, 198, .inl (fun zz => nI (a3 zz)))), ((h 12), .inl (cI, 9, .inl (fun zz => nI (a4 zz)))), ((h 13), .inl (cI, 9, .inl (fA a5)))] (fun _ => rfl) [] [(h 0), (h 1), (h 2), (h 3), (h 4), (h 5), (h 6), (h 7), (h 8), (h 9), (h 10), (h 11), (h 12), (h 13)] rfl rfl rfl rfl rfl (by decide) (by decide) 0 rfl rfl rfl (Nat.le_of_ble_eq_true rfl) dX10_statement_123 (fun u_123 h_123 => ?_) rfl
      show J l _ D ε _ _ _ (.int (nI (fig (ltr ft le (sp + 1)) (E 0)) - nI 1) :: _)
      refine j_istore_n EE [(3, _), (2, _), (0, _), (1, _)] dX10_statement_126 rfl (Nat.lt_of_lt_of_eq (by decide) hL.symm) rfl ?_
      refine j_iload_n EE 0 dX10_statement_127 rfl rfl ?_
      refine j_if_lt EE 140 dX10_statement_128 (by decide) (fun c128 => ?_) (fun c128 => ?_)
      · skip
        have m128 : fig (ltr ft le (sp + 1)) (E 0) = 0 := (m1_lt (by have := fig_le (ltr ft le (sp + 1)) (E 0); omega)).mp c128
        refine j_iconst (v := nI 0) EE dX10_statement_140 (by decide) ?_
        have hR : s0M ft le E sp = none := by
          unfold s0M
          (repeat (first | rw [if_pos (by omega)] | rw [if_neg (by omega)]))
        exact j_zret EE FF (by decide) dX10_statement_141 ((sp + 1) + 1, (sA E)) ⟨fun q hq => by rw [hR] at hq; exact absurd hq (by simp), sA_99 hE9⟩ (by rw [hR]; rfl) rfl
      · skip
        have g128 := fig_le (ltr ft le (sp + 1)) (E 0)
        have m128 : ¬ fig (ltr ft le (sp + 1)) (E 0) = 0 := fun hq => c128 ((m1_lt (by have := fig_le (ltr ft le (sp + 1)) (E 0); omega)).mpr hq)
        rw [show nI (fig (ltr ft le (sp + 1)) (E 0)) - nI 1 = nI (fig (ltr ft le (sp + 1)) (E 0) - 1) from pk_sub (by omega)]
        refine j_aload_n EE 2 dX10_statement_131 rfl rfl ?_
        refine j_V2 (n9 := 14) EE (c_X10_letter h F Q ft B Bt a1 a2 a3 a4 a5 (sA E) W M km le ((sp + 1) + 1) ro hft (by omega) (by omega)) gX10_statement_X10_letter ⟨rfl, hd_X10_letter⟩ rfl ⟨rfl, rfl⟩ ⟨by decide, by decide⟩ rfl [0, 1, 2, 3, 4, 5, 6, 7, 8, 9, 10, 11, 12, 13] rfl [] [((h 0), .inr (6, [.ref ((h 1)), .ref ((h 2)), .ref ((h 3)), .int (nI km), .ref ((h 4)), .int (nI le), .int (nI (((sp + 1) + 1) + 1)), .ref ((h 5)), .ref ((h 6)), .int (nI ro), .ref ((h 7)), .ref ((h 8)), .ref ((h 9)), .ref ((h 10)), .ref ((h 11)), .ref ((h 12)), .ref ((h 13))])), ((h 1), .inl (cI, 99, .inl (sA F))), ((h 2), .inl (cI, 99, .inl (sA E))), ((h 3), .inl (cI, 594, .inl (kA Q))), ((h 4), .inl (cI, 200, .inl (fun zz => nI (ft zz)))), ((h 5), .inl (cI, 12, .inl (fun zz => nI (B zz)))), ((h 6), .inl (cI, 12, .inl (fun zz => nI (Bt zz)))), ((h 7), .inl (cJ, 16, .inr (.inl W))), ((h 8), .inl (cJ, 16, .inr (.inl M))), ((h 9), .inl (cI, 9, .inl (fun zz => nI (a1 zz)))), ((h 10), .inl (cI, 9, .inl (fun zz => nI (a2 zz)))), ((h 11), .inl (cI, 198, .inl (fun zz => nI (a3 zz)))), ((h 12), .inl (cI, 9, .inl (fun zz => nI (a4 zz)))), ((h 13), .inl (cI, 9, .inl (fA a5)))] (fun _ => rfl) [] [(h 0), (h 1), (h 2), (h 3), (h 4), (h 5), (h 6), (h 7), (h 8), (h 9), (h 10), (h 11), (h 12), (h 13)] rfl rfl rfl rfl rfl (by decide) (by decide) 0 rfl rfl rfl (Nat.le_of_ble_eq_true rfl) dX10_statement_132 (fun u_132 h_132 => ?_) rfl
        show J l _ D ε _ _ _ (.int (nI (ltr ft le ((sp + 1) + 1))) :: _)
        refine j_bipush (v := nI 59) EE dX10_statement_135 (by decide) ?_
        refine j_icmp_eq EE 142 dX10_statement_137 (by decide) (fun c137 => ?_) (fun c137 => ?_)
        · skip
          have n137 : (ltr ft le ((sp + 1) + 1)) = 59 := (nI_eq (a := (ltr ft le ((sp + 1) + 1))) (b := 59) (by have := ltr_lt (le := le) (sp := ((sp + 1) + 1)) hft; omega) (by have := ltr_lt (le := le) (sp := ((sp + 1) + 1)) hft; omega)).mp c137
          refine j_aload_n EE 2 dX10_statement_142 rfl rfl ?_
          refine j_get (T := TX10) EE iw_X10_statement_X10 0 rfl rfl 1 (by decide) lk_X10_statement_13 rfl dX10_statement_143 ?_
          refine j_iload_n EE 1 dX10_statement_146 rfl rfl ?_
          refine j_bipush (v := nI 111) EE dX10_statement_147 (by decide) ?_
          refine j_icmp_ne EE 156 dX10_statement_149 (by decide) (fun c149 => ?_) (fun c149 => ?_)
          · skip
            have n149 : (ltr ft le sp) ≠ 111 := fun hq => c149 ((nI_eq (a := (ltr ft le sp)) (b := 111) (by have := ltr_lt (le := le) (sp := sp) hft; omega) (by have := ltr_lt (le := le) (sp := sp) hft; omega)).mpr hq)
            refine j_iconst (v := nI 3) EE dX10_statement_156 (by decide) ?_
            refine j_dup2 EE rfl rfl dX10_statement_157 ?_
            refine j_iald EE 2 0 rfl rfl (vp_in_nI (n := 3) (by omega) (by decide)) dX10_statement_158 ?_
            refine j_topE (congrArg (sA E) (nI_clamp (n := 3) (by omega))) ?_
            refine j_topE (y := nI (E 3)) (sA_n (by omega)) ?_
            refine j_iconst (v := nI 1) EE dX10_statement_159 (by decide) ?_
            refine j_iload_n EE 0 dX10_statement_160 rfl rfl ?_
            refine j_ishl EE dX10_statement_161 ?_
            refine j_ior EE dX10_statement_162 ?_
            refine j_topE (y := nI (wbit (E 3) (fig (ltr ft le (sp + 1)) (E 0) - 1) 1)) (b_wset (E 3) hE3 (fig (ltr ft le (sp + 1)) (E 0) - 1) (by have := fig_le (ltr ft le (sp + 1)) (E 0); omega)) ?_
            refine j_iast (ws' := [((h 0), .inr (6, [.ref ((h 1)), .ref ((h 2)), .ref ((h 3)), .int (nI km), .ref ((h 4)), .int (nI le), .int (nI (((sp + 1) + 1) + 1)), .ref ((h 5)), .ref ((h 6)), .int (nI ro), .ref ((h 7)), .ref ((h 8)), .ref ((h 9)), .ref ((h 10)), .ref ((h 11)), .ref ((h 12)), .ref ((h 13))])), ((h 1), .inl (cI, 99, .inl (sA F))), ((h 2), .inl (cI, 99, .inl (sA (updN E 3 (wbit (E 3) (fig (ltr ft le (sp + 1)) (E 0) - 1) 1))))), ((h 3), .inl (cI, 594, .inl (kA Q))), ((h 4), .inl (cI, 200, .inl (fun zz => nI (ft zz)))), ((h 5), .inl (cI, 12, .inl (fun zz => nI (B zz)))), ((h 6), .inl (cI, 12, .inl (fun zz => nI (Bt zz)))), ((h 7), .inl (cJ, 16, .inr (.inl W))), ((h 8), .inl (cJ, 16, .inr (.inl M))), ((h 9), .inl (cI, 9, .inl (fun zz => nI (a1 zz)))), ((h 10), .inl (cI, 9, .inl (fun zz => nI (a2 zz)))), ((h 11), .inl (cI, 198, .inl (fun zz => nI (a3 zz)))), ((h 12), .inl (cI, 9, .inl (fun zz => nI (a4 zz)))), ((h 13), .inl (cI, 9, .inl (fA a5)))]) EE 2 0 rfl rfl (vp_in_nI (n := 3) (by omega) (by decide)) (by rw [nI_clamp (by omega), upd_sAn (by omega)]; rfl) dX10_statement_163 ?_
            refine j_iconst (v := nI 1) EE dX10_statement_164 (by decide) ?_
            have hR : s0M ft le E sp = some (((sp + 1) + 1) + 1, updN E 3 (wbit (E 3) (fig (ltr ft le (sp + 1)) (E 0) - 1) 1)) := by
              first | (exfalso; omega) | (unfold s0M; (repeat (first | rw [if_pos (by omega)] | rw [if_neg (by omega)])))
            exact j_zret EE FF (by decide) dX10_statement_165 (((sp + 1) + 1) + 1, (sA (updN E 3 (wbit (E 3) (fig (ltr ft le (sp + 1)) (E 0) - 1) 1)))) ⟨fun q hq => by rw [hR] at hq; rw [← Option.some.inj hq], sA_99 (un_99 (by omega) hE9)⟩ (by rw [hR]; rfl) rfl
          · skip
            have n149 : (ltr ft le sp) = 111 := (nI_eq (a := (ltr ft le sp)) (b := 111) (by have := ltr_lt (le := le) (sp := sp) hft; omega) (by have := ltr_lt (le := le) (sp := sp) hft; omega)).mp c149
            refine j_iconst (v := nI 2) EE dX10_statement_152 (by decide) ?_
            refine j_goto EE 157 dX10_statement_153 (by decide) ?_
            refine j_dup2 EE rfl rfl dX10_statement_157 ?_
            refine j_iald EE 2 0 rfl rfl (vp_in_nI (n := 2) (by omega) (by decide)) dX10_statement_158 ?_
            refine j_topE (congrArg (sA E) (nI_clamp (n := 2) (by omega))) ?_
            refine j_topE (y := nI (E 2)) (sA_n (by omega)) ?_
            refine j_iconst (v := nI 1) EE dX10_statement_159 (by decide) ?_
            refine j_iload_n EE 0 dX10_statement_160 rfl rfl ?_
            refine j_ishl EE dX10_statement_161 ?_
            refine j_ior EE dX10_statement_162 ?_
            refine j_topE (y := nI (wbit (E 2) (fig (ltr ft le (sp + 1)) (E 0) - 1) 1)) (b_wset (E 2) hE2 (fig (ltr ft le (sp + 1)) (E 0) - 1) (by have := fig_le (ltr ft le (sp + 1)) (E 0); omega)) ?_
            refine j_iast (ws' := [((h 0), .inr (6, [.ref ((h 1)), .ref ((h 2)), .ref ((h 3)), .int (nI km), .ref ((h 4)), .int (nI le), .int (nI (((sp + 1) + 1) + 1)), .ref ((h 5)), .ref ((h 6)), .int (nI ro), .ref ((h 7)), .ref ((h 8)), .ref ((h 9)), .ref ((h 10)), .ref ((h 11)), .ref ((h 12)), .ref ((h 13))])), ((h 1), .inl (cI, 99, .inl (sA F))), ((h 2), .inl (cI, 99, .inl (sA (updN E 2 (wbit (E 2) (fig (ltr ft le (sp + 1)) (E 0) - 1) 1))))), ((h 3), .inl (cI, 594, .inl (kA Q))), ((h 4), .inl (cI, 200, .inl (fun zz => nI (ft zz)))), ((h 5), .inl (cI, 12, .inl (fun zz => nI (B zz)))), ((h 6), .inl (cI, 12, .inl (fun zz => nI (Bt zz)))), ((h 7), .inl (cJ, 16, .inr (.inl W))), ((h 8), .inl (cJ, 16, .inr (.inl M))), ((h 9), .inl (cI, 9, .inl (fun zz => nI (a1 zz)))), ((h 10), .inl (cI, 9, .inl (fun zz => nI (a2 zz)))), ((h 11), .inl (cI, 198, .inl (fun zz => nI (a3 zz)))), ((h 12), .inl (cI, 9, .inl (fun zz => nI (a4 zz)))), ((h 13), .inl (cI, 9, .inl (fA a5)))]) EE 2 0 rfl rfl (vp_in_nI (n := 2) (by omega) (by decide)) (by rw [nI_clamp (by omega), upd_sAn (by omega)]; rfl) dX10_statement_163 ?_
            refine j_iconst (v := nI 1) EE dX10_statement_164 (by decide) ?_
            have hR : s0M ft le E sp = some (((sp + 1) + 1) + 1, updN E 2 (wbit (E 2) (fig (ltr ft le (sp + 1)) (E 0) - 1) 1)) := by
              first | (exfalso; omega) | (unfold s0M; (repeat (first | rw [if_pos (by omega)] | rw [if_neg (by omega)])))
            exact j_zret EE FF (by decide) dX10_statement_165 (((sp + 1) + 1) + 1, (sA (updN E 2 (wbit (E 2) (fig (ltr ft le (sp + 1)) (E 0) - 1) 1)))) ⟨fun q hq => by rw [hR] at hq; rw [← Option.some.inj hq], sA_99 (un_99 (by omega) hE9)⟩ (by rw [hR]; rfl) rfl
        · skip
          have n137 : (ltr ft le ((sp + 1) + 1)) ≠ 59 := fun hq => c137 ((nI_eq (a := (ltr ft le ((sp + 1) + 1))) (b := 59) (by have := ltr_lt (le := le) (sp := ((sp + 1) + 1)) hft; omega) (by have := ltr_lt (le := le) (sp := ((sp + 1) + 1)) hft; omega)).mpr hq)
          refine j_iconst (v := nI 0) EE dX10_statement_140 (by decide) ?_
          have hR : s0M ft le E sp = none := by
            unfold s0M
            (repeat (first | rw [if_pos (by omega)] | rw [if_neg (by omega)]))
          exact j_zret EE FF (by decide) dX10_statement_141 (((sp + 1) + 1) + 1, (sA E)) ⟨fun q hq => by rw [hR] at hq; exact absurd hq (by simp), sA_99 hE9⟩ (by rw [hR]; rfl) rfl
    · skip
      have n107 : (ltr ft le sp) ≠ 111 := fun hq => c107 ((nI_eq (a := (ltr ft le sp)) (b := 111) (by have := ltr_lt (le := le) (sp := sp) hft; omega) (by have := ltr_lt (le := le) (sp := sp) hft; omega)).mpr hq)
      refine j_iload_n EE 0 dX10_statement_110 rfl rfl ?_
      refine j_bipush (v := nI 116) EE dX10_statement_111 (by decide) ?_
      refine j_icmp_ne EE 166 dX10_statement_113 (by decide) (fun c113 => ?_) (fun c113 => ?_)
      · skip
        have n113 : (ltr ft le sp) ≠ 116 := fun hq => c113 ((nI_eq (a := (ltr ft le sp)) (b := 116) (by have := ltr_lt (le := le) (sp := sp) hft; omega) (by have := ltr_lt (le := le) (sp := sp) hft; omega)).mpr hq)
        refine j_iload_n EE 0 dX10_statement_166 rfl rfl ?_
        refine j_bipush (v := nI 114) EE dX10_statement_167 (by decide) ?_
        refine j_icmp_ne EE 183 dX10_statement_169 (by decide) (fun c169 => ?_) (fun c169 => ?_)
        · skip
          have n169 : (ltr ft le sp) ≠ 114 := fun hq => c169 ((nI_eq (a := (ltr ft le sp)) (b := 114) (by have := ltr_lt (le := le) (sp := sp) hft; omega) (by have := ltr_lt (le := le) (sp := sp) hft; omega)).mpr hq)
          refine j_iconst (v := nI 0) EE dX10_statement_183 (by decide) ?_
          have hR : s0M ft le E sp = none := by
            unfold s0M
            (repeat (first | rw [if_pos (by omega)] | rw [if_neg (by omega)]))
          exact j_zret EE FF (by decide) dX10_statement_184 (sp + 1, (sA E)) ⟨fun q hq => by rw [hR] at hq; exact absurd hq (by simp), sA_99 hE9⟩ (by rw [hR]; rfl) rfl
        · skip
          have n169 : (ltr ft le sp) = 114 := (nI_eq (a := (ltr ft le sp)) (b := 114) (by have := ltr_lt (le := le) (sp := sp) hft; omega) (by have := ltr_lt (le := le) (sp := sp) hft; omega)).mp c169
          refine j_aload_n EE 1 dX10_statement_172 rfl rfl ?_
          refine j_V3 (n9 := 14) EE (c_X10_ruleIs h F Q ft B Bt a1 a2 a3 a4 a5 (sA E) W M km le (sp + 1) ro E hft (by omega) (by omega) ⟨hEb, hE0, hE1, hE2, hE3, hE4, hE9⟩) gX10_statement_X10_ruleIs ⟨rfl, hd_X10_ruleIs⟩ rfl ⟨rfl, rfl⟩ ⟨by decide, by decide⟩ rfl [0, 1, 2, 3, 4, 5, 6, 7, 8, 9, 10, 11, 12, 13] rfl [] (fun u_173 => [((h 0), .inr (6, [.ref ((h 1)), .ref ((h 2)), .ref ((h 3)), .int (nI km), .ref ((h 4)), .int (nI le), .int (nI u_173.1), .ref ((h 5)), .ref ((h 6)), .int (nI ro), .ref ((h 7)), .ref ((h 8)), .ref ((h 9)), .ref ((h 10)), .ref ((h 11)), .ref ((h 12)), .ref ((h 13))])), ((h 1), .inl (cI, 99, .inl (sA F))), ((h 2), .inl (cI, 99, .inl u_173.2)), ((h 3), .inl (cI, 594, .inl (kA Q))), ((h 4), .inl (cI, 200, .inl (fun zz => nI (ft zz)))), ((h 5), .inl (cI, 12, .inl (fun zz => nI (B zz)))), ((h 6), .inl (cI, 12, .inl (fun zz => nI (Bt zz)))), ((h 7), .inl (cJ, 16, .inr (.inl W))), ((h 8), .inl (cJ, 16, .inr (.inl M))), ((h 9), .inl (cI, 9, .inl (fun zz => nI (a1 zz)))), ((h 10), .inl (cI, 9, .inl (fun zz => nI (a2 zz)))), ((h 11), .inl (cI, 198, .inl (fun zz => nI (a3 zz)))), ((h 12), .inl (cI, 9, .inl (fun zz => nI (a4 zz)))), ((h 13), .inl (cI, 9, .inl (fA a5)))]) (fun _ => rfl) [] [(h 0), (h 1), (h 2), (h 3), (h 4), (h 5), (h 6), (h 7), (h 8), (h 9), (h 10), (h 11), (h 12), (h 13)] (fun _ => rfl) rfl (fun _ => rfl) rfl (fun _ => rfl) (by decide) (by decide) 0 rfl rfl rfl (Nat.le_of_ble_eq_true rfl) dX10_statement_173 (fun u_173 h_173 => ?_) rfl
          show J l _ D ε _ _ _ (.int (nI (b2n (riM ft le E (sp + 1)).isSome)) :: _)
          refine j_if_eq EE 183 dX10_statement_176 (by decide) (fun c176 => ?_) (fun c176 => ?_)
          · skip
            have n176 : (b2n (riM ft le E (sp + 1)).isSome) = 0 := (nI_eq (a := (b2n (riM ft le E (sp + 1)).isSome)) (b := 0) (by have := b2n_lt (riM ft le E (sp + 1)).isSome; omega) (by have := b2n_lt (riM ft le E (sp + 1)).isSome; omega)).mp c176
            refine j_iconst (v := nI 0) EE dX10_statement_183 (by decide) ?_
            have hR : s0M ft le E sp = riM ft le E (sp + 1) := by
              unfold s0M
              (repeat (first | rw [if_pos (by omega)] | rw [if_neg (by omega)]))
            exact j_zret EE FF (by decide) dX10_statement_184 u_173 ⟨fun q hq => h_173.1 q (hR ▸ hq), h_173.2⟩ (by rw [hR]; first | rw [b2n_t (b2n_ne0 n176)] | rw [b2n_f (b2n_0 n176)]) rfl
          · skip
            have n176 : (b2n (riM ft le E (sp + 1)).isSome) ≠ 0 := fun hq => c176 ((nI_eq (a := (b2n (riM ft le E (sp + 1)).isSome)) (b := 0) (by have := b2n_lt (riM ft le E (sp + 1)).isSome; omega) (by have := b2n_lt (riM ft le E (sp + 1)).isSome; omega)).mpr hq)
            refine j_iconst (v := nI 1) EE dX10_statement_179 (by decide) ?_
            refine j_goto EE 184 dX10_statement_180 (by decide) ?_
            have hR : s0M ft le E sp = riM ft le E (sp + 1) := by
              unfold s0M
              (repeat (first | rw [if_pos (by omega)] | rw [if_neg (by omega)]))
            exact j_zret EE FF (by decide) dX10_statement_184 u_173 ⟨fun q hq => h_173.1 q (hR ▸ hq), h_173.2⟩ (by rw [hR]; first | rw [b2n_t (b2n_ne0 n176)] | rw [b2n_f (b2n_0 n176)]) rfl
      · skip
        have n113 : (ltr ft le sp) = 116 := (nI_eq (a := (ltr ft le sp)) (b := 116) (by have := ltr_lt (le := le) (sp := sp) hft; omega) (by have := ltr_lt (le := le) (sp := sp) hft; omega)).mp c113
        refine j_aload_n EE 1 dX10_statement_116 rfl rfl ?_
        refine j_aload_n EE 1 dX10_statement_117 rfl rfl ?_
        refine j_get (T := TX10) EE iw_X10_statement_X10 0 rfl rfl 1 (by decide) lk_X10_statement_13 rfl dX10_statement_118 ?_
        refine j_iconst (v := nI 0) EE dX10_statement_121 (by decide) ?_
        refine j_iald EE 2 0 rfl rfl (vp_in_nI (n := 0) (by omega) (by decide)) dX10_statement_122 ?_
        refine j_topE (congrArg (sA E) (nI_clamp (n := 0) (by omega))) ?_
        refine j_topE (y := nI (E 0)) (sA_n (by omega)) ?_
        refine j_V2 (n9 := 14) EE (c_X10_figure h F Q ft B Bt a1 a2 a3 a4 a5 (sA E) W M km le (sp + 1) ro (E 0) hft (by omega) (by omega) (by omega)) gX10_statement_X10_figure ⟨rfl, hd_X10_figure⟩ rfl ⟨rfl, rfl⟩ ⟨by decide, by decide⟩ rfl [0, 1, 2, 3, 4, 5, 6, 7, 8, 9, 10, 11, 12, 13] rfl [] [((h 0), .inr (6, [.ref ((h 1)), .ref ((h 2)), .ref ((h 3)), .int (nI km), .ref ((h 4)), .int (nI le), .int (nI ((sp + 1) + 1)), .ref ((h 5)), .ref ((h 6)), .int (nI ro), .ref ((h 7)), .ref ((h 8)), .ref ((h 9)), .ref ((h 10)), .ref ((h 11)), .ref ((h 12)), .ref ((h 13))])), ((h 1), .inl (cI, 99, .inl (sA F))), ((h 2), .inl (cI, 99, .inl (sA E))), ((h 3), .inl (cI, 594, .inl (kA Q))), ((h 4), .inl (cI, 200, .inl (fun zz => nI (ft zz)))), ((h 5), .inl (cI, 12, .inl (fun zz => nI (B zz)))), ((h 6), .inl (cI, 12, .inl (fun zz => nI (Bt zz)))), ((h 7), .inl (cJ, 16, .inr (.inl W))), ((h 8), .inl (cJ, 16, .inr (.inl M))), ((h 9), .inl (cI, 9, .inl (fun zz => nI (a1 zz)))), ((h 10), .inl (cI, 9, .inl (fun zz => nI (a2 zz)))), ((h 11), .inl (cI, 198, .inl (fun zz => nI (a3 zz)))), ((h 12), .inl (cI, 9, .inl (fun zz => nI (a4 zz)))), ((h 13), .inl (cI, 9, .inl (fA a5)))] (fun _ => rfl) [] [(h 0), (h 1), (h 2), (h 3), (h 4), (h 5), (h 6), (h 7), (h 8), (h 9), (h 10), (h 11), (h 12), (h 13)] rfl rfl rfl rfl rfl (by decide) (by decide) 0 rfl rfl rfl (Nat.le_of_ble_eq_true rfl) dX10_statement_123 (fun u_123 h_123 => ?_) rfl
        show J l _ D ε _ _ _ (.int (nI (fig (ltr ft le (sp + 1)) (E 0)) - nI 1) :: _)
        refine j_istore_n EE [(3, _), (2, _), (0, _), (1, _)] dX10_statement_126 rfl (Nat.lt_of_lt_of_eq (by decide) hL.symm) rfl ?_
        refine j_iload_n EE 0 dX10_statement_127 rfl rfl ?_
        refine j_if_lt EE 140 dX10_statement_128 (by decide) (fun c128 => ?_) (fun c128 => ?_)
        · skip
          have m128 : fig (ltr ft le (sp + 1)) (E 0) = 0 := (m1_lt (by have := fig_le (ltr ft le (sp + 1)) (E 0); omega)).mp c128
          refine j_iconst (v := nI 0) EE dX10_statement_140 (by decide) ?_
          have hR : s0M ft le E sp = none := by
            unfold s0M
            (repeat (first | rw [if_pos (by omega)] | rw [if_neg (by omega)]))
          exact j_zret EE FF (by decide) dX10_statement_141 ((sp + 1) + 1, (sA E)) ⟨fun q hq => by rw [hR] at hq; exact absurd hq (by simp), sA_99 hE9⟩ (by rw [hR]; rfl) rfl
        · skip
          have g128 := fig_le (ltr ft le (sp + 1)) (E 0)
          have m128 : ¬ fig (ltr ft le (sp + 1)) (E 0) = 0 := fun hq => c128 ((m1_lt (by have := fig_le (ltr ft le (sp + 1)) (E 0); omega)).mpr hq)
          rw [show nI (fig (ltr ft le (sp + 1)) (E 0)) - nI 1 = nI (fig (ltr ft le (sp + 1)) (E 0) - 1) from pk_sub (by omega)]
          refine j_aload_n EE 2 dX10_statement_131 rfl rfl ?_
          refine j_V2 (n9 := 14) EE (c_X10_letter h F Q ft B Bt a1 a2 a3 a4 a5 (sA E) W M km le ((sp + 1) + 1) ro hft (by omega) (by omega)) gX10_statement_X10_letter ⟨rfl, hd_X10_letter⟩ rfl ⟨rfl, rfl⟩ ⟨by decide, by decide⟩ rfl [0, 1, 2, 3, 4, 5, 6, 7, 8, 9, 10, 11, 12, 13] rfl [] [((h 0), .inr (6, [.ref ((h 1)), .ref ((h 2)), .ref ((h 3)), .int (nI km), .ref ((h 4)), .int (nI le), .int (nI (((sp + 1) + 1) + 1)), .ref ((h 5)), .ref ((h 6)), .int (nI ro), .ref ((h 7)), .ref ((h 8)), .ref ((h 9)), .ref ((h 10)), .ref ((h 11)), .ref ((h 12)), .ref ((h 13))])), ((h 1), .inl (cI, 99, .inl (sA F))), ((h 2), .inl (cI, 99, .inl (sA E))), ((h 3), .inl (cI, 594, .inl (kA Q))), ((h 4), .inl (cI, 200, .inl (fun zz => nI (ft zz)))), ((h 5), .inl (cI, 12, .inl (fun zz => nI (B zz)))), ((h 6), .inl (cI, 12, .inl (fun zz => nI (Bt zz)))), ((h 7), .inl (cJ, 16, .inr (.inl W))), ((h 8), .inl (cJ, 16, .inr (.inl M))), ((h 9), .inl (cI, 9, .inl (fun zz => nI (a1 zz)))), ((h 10), .inl (cI, 9, .inl (fun zz => nI (a2 zz)))), ((h 11), .inl (cI, 198, .inl (fun zz => nI (a3 zz)))), ((h 12), .inl (cI, 9, .inl (fun zz => nI (a4 zz)))), ((h 13), .inl (cI, 9, .inl (fA a5)))] (fun _ => rfl) [] [(h 0), (h 1), (h 2), (h 3), (h 4), (h 5), (h 6), (h 7), (h 8), (h 9), (h 10), (h 11), (h 12), (h 13)] rfl rfl rfl rfl rfl (by decide) (by decide) 0 rfl rfl rfl (Nat.le_of_ble_eq_true rfl) dX10_statement_132 (fun u_132 h_132 => ?_) rfl
          show J l _ D ε _ _ _ (.int (nI (ltr ft le ((sp + 1) + 1))) :: _)
          refine j_bipush (v := nI 59) EE dX10_statement_135 (by decide) ?_
          refine j_icmp_eq EE 142 dX10_statement_137 (by decide) (fun c137 => ?_) (fun c137 => ?_)
          · skip
            have n137 : (ltr ft le ((sp + 1) + 1)) = 59 := (nI_eq (a := (ltr ft le ((sp + 1) + 1))) (b := 59) (by have := ltr_lt (le := le) (sp := ((sp + 1) + 1)) hft; omega) (by have := ltr_lt (le := le) (sp := ((sp + 1) + 1)) hft; omega)).mp c137
            refine j_aload_n EE 2 dX10_statement_142 rfl rfl ?_
            refine j_get (T := TX10) EE iw_X10_statement_X10 0 rfl rfl 1 (by decide) lk_X10_statement_13 rfl dX10_statement_143 ?_
            refine j_iload_n EE 1 dX10_statement_146 rfl rfl ?_
            refine j_bipush (v := nI 111) EE dX10_statement_147 (by decide) ?_
            refine j_icmp_ne EE 156 dX10_statement_149 (by decide) (fun c149 => ?_) (fun c149 => ?_)
            · skip
              have n149 : (ltr ft le sp) ≠ 111 := fun hq => c149 ((nI_eq (a := (ltr ft le sp)) (b := 111) (by have := ltr_lt (le := le) (sp := sp) hft; omega) (by have := ltr_lt (le := le) (sp := sp) hft; omega)).mpr hq)
              refine j_iconst (v := nI 3) EE dX10_statement_156 (by decide) ?_
              refine j_dup2 EE rfl rfl dX10_statement_157 ?_
              refine j_iald EE 2 0 rfl rfl (vp_in_nI (n := 3) (by omega) (by decide)) dX10_statement_158 ?_
              refine j_topE (congrArg (sA E) (nI_clamp (n := 3) (by omega))) ?_
              refine j_topE (y := nI (E 3)) (sA_n (by omega)) ?_
              refine j_iconst (v := nI 1) EE dX10_statement_159 (by decide) ?_
              refine j_iload_n EE 0 dX10_statement_160 rfl rfl ?_
              refine j_ishl EE dX10_statement_161 ?_
              refine j_ior EE dX10_statement_162 ?_
              refine j_topE (y := nI (wbit (E 3) (fig (ltr ft le (sp + 1)) (E 0) - 1) 1)) (b_wset (E 3) hE3 (fig (ltr ft le (sp + 1)) (E 0) - 1) (by have := fig_le (ltr ft le (sp + 1)) (E 0); omega)) ?_
              refine j_iast (ws' := [((h 0), .inr (6, [.ref ((h 1)), .ref ((h 2)), .ref ((h 3)), .int (nI km), .ref ((h 4)), .int (nI le), .int (nI (((sp + 1) + 1) + 1)), .ref ((h 5)), .ref ((h 6)), .int (nI ro), .ref ((h 7)), .ref ((h 8)), .ref ((h 9)), .ref ((h 10)), .ref ((h 11)), .ref ((h 12)), .ref ((h 13))])), ((h 1), .inl (cI, 99, .inl (sA F))), ((h 2), .inl (cI, 99, .inl (sA (updN E 3 (wbit (E 3) (fig (ltr ft le (sp + 1)) (E 0) - 1) 1))))), ((h 3), .inl (cI, 594, .inl (kA Q))), ((h 4), .inl (cI, 200, .inl (fun zz => nI (ft zz)))), ((h 5), .inl (cI, 12, .inl (fun zz => nI (B zz)))), ((h 6), .inl (cI, 12, .inl (fun zz => nI (Bt zz)))), ((h 7), .inl (cJ, 16, .inr (.inl W))), ((h 8), .inl (cJ, 16, .inr (.inl M))), ((h 9), .inl (cI, 9, .inl (fun zz => nI (a1 zz)))), ((h 10), .inl (cI, 9, .inl (fun zz => nI (a2 zz)))), ((h 11), .inl (cI, 198, .inl (fun zz => nI (a3 zz)))), ((h 12), .inl (cI, 9, .inl (fun zz => nI (a4 zz)))), ((h 13), .inl (cI, 9, .inl (fA a5)))]) EE 2 0 rfl rfl (vp_in_nI (n := 3) (by omega) (by decide)) (by rw [nI_clamp (by omega), upd_sAn (by omega)]; rfl) dX10_statement_163 ?_
              refine j_iconst (v := nI 1) EE dX10_statement_164 (by decide) ?_
              have hR : s0M ft le E sp = some (((sp + 1) + 1) + 1, updN E 3 (wbit (E 3) (fig (ltr ft le (sp + 1)) (E 0) - 1) 1)) := by
                first | (exfalso; omega) | (unfold s0M; (repeat (first | rw [if_pos (by omega)] | rw [if_neg (by omega)])))
              exact j_zret EE FF (by decide) dX10_statement_165 (((sp + 1) + 1) + 1, (sA (updN E 3 (wbit (E 3) (fig (ltr ft le (sp + 1)) (E 0) - 1) 1)))) ⟨fun q hq => by rw [hR] at hq; rw [← Option.some.inj hq], sA_99 (un_99 (by omega) hE9)⟩ (by rw [hR]; rfl) rfl
            · skip
              have n149 : (ltr ft le sp) = 111 := (nI_eq (a := (ltr ft le sp)) (b := 111) (by have := ltr_lt (le := le) (sp := sp) hft; omega) (by have := ltr_lt (le := le) (sp := sp) hft; omega)).mp c149
              refine j_iconst (v := nI 2) EE dX10_statement_152 (by decide) ?_
              refine j_goto EE 157 dX10_statement_153 (by decide) ?_
              refine j_dup2 EE rfl rfl dX10_statement_157 ?_
              refine j_iald EE 2 0 rfl rfl (vp_in_nI (n := 2) (by omega) (by decide)) dX10_statement_158 ?_
              refine j_topE (congrArg (sA E) (nI_clamp (n := 2) (by omega))) ?_
              refine j_topE (y := nI (E 2)) (sA_n (by omega)) ?_
              refine j_iconst (v := nI 1) EE dX10_statement_159 (by decide) ?_
              refine j_iload_n EE 0 dX10_statement_160 rfl rfl ?_
              refine j_ishl EE dX10_statement_161 ?_
              refine j_ior EE dX10_statement_162 ?_
              refine j_topE (y := nI (wbit (E 2) (fig (ltr ft le (sp + 1)) (E 0) - 1) 1)) (b_wset (E 2) hE2 (fig (ltr ft le (sp + 1)) (E 0) - 1) (by have := fig_le (ltr ft le (sp + 1)) (E 0); omega)) ?_
              refine j_iast (ws' := [((h 0), .inr (6, [.ref ((h 1)), .ref ((h 2)), .ref ((h 3)), .int (nI km), .ref ((h 4)), .int (nI le), .int (nI (((sp + 1) + 1) + 1)), .ref ((h 5)), .ref ((h 6)), .int (nI ro), .ref ((h 7)), .ref ((h 8)), .ref ((h 9)), .ref ((h 10)), .ref ((h 11)), .ref ((h 12)), .ref ((h 13))])), ((h 1), .inl (cI, 99, .inl (sA F))), ((h 2), .inl (cI, 99, .inl (sA (updN E 2 (wbit (E 2) (fig (ltr ft le (sp + 1)) (E 0) - 1) 1))))), ((h 3), .inl (cI, 594, .inl (kA Q))), ((h 4), .inl (cI, 200, .inl (fun zz => nI (ft zz)))), ((h 5), .inl (cI, 12, .inl (fun zz => nI (B zz)))), ((h 6), .inl (cI, 12, .inl (fun zz => nI (Bt zz)))), ((h 7), .inl (cJ, 16, .inr (.inl W))), ((h 8), .inl (cJ, 16, .inr (.inl M))), ((h 9), .inl (cI, 9, .inl (fun zz => nI (a1 zz)))), ((h 10), .inl (cI, 9, .inl (fun zz => nI (a2 zz)))), ((h 11), .inl (cI, 198, .inl (fun zz => nI (a3 zz)))), ((h 12), .inl (cI, 9, .inl (fun zz => nI (a4 zz)))), ((h 13), .inl (cI, 9, .inl (fA a5)))]) EE 2 0 rfl rfl (vp_in_nI (n := 2) (by omega) (by decide)) (by rw [nI_clamp (by omega), upd_sAn (by omega)]; rfl) dX10_statement_163 ?_
              refine j_iconst (v := nI 1) EE dX10_statement_164 (by decide) ?_
              have hR : s0M ft le E sp = some (((sp + 1) + 1) + 1, updN E 2 (wbit (E 2) (fig (ltr ft le (sp + 1)) (E 0) - 1) 1)) := by
                first | (exfalso; omega) | (unfold s0M; (repeat (first | rw [if_pos (by omega)] | rw [if_neg (by omega)])))
              exact j_zret EE FF (by decide) dX10_statement_165 (((sp + 1) + 1) + 1, (sA (updN E 2 (wbit (E 2) (fig (ltr ft le (sp + 1)) (E 0) - 1) 1)))) ⟨fun q hq => by rw [hR] at hq; rw [← Option.some.inj hq], sA_99 (un_99 (by omega) hE9)⟩ (by rw [hR]; rfl) rfl
          · skip
            have n137 : (ltr ft le ((sp + 1) + 1)) ≠ 59 := fun hq => c137 ((nI_eq (a := (ltr ft le ((sp + 1) + 1))) (b := 59) (by have := ltr_lt (le := le) (sp := ((sp + 1) + 1)) hft; omega) (by have := ltr_lt (le := le) (sp := ((sp + 1) + 1)) hft; omega)).mpr hq)
            refine j_iconst (v := nI 0) EE dX10_statement_140 (by decide) ?_
            have hR : s0M ft le E sp = none := by
              unfold s0M
              (repeat (first | rw [if_pos (by omega)] | rw [if_neg (by omega)]))
            exact j_zret EE FF (by decide) dX10_statement_141 (((sp + 1) + 1) + 1, (sA E)) ⟨fun q hq => by rw [hR] at hq; exact absurd hq (by simp), sA_99 hE9⟩ (by rw [hR]; rfl) rfl
  · skip
    have n8 : (ltr ft le sp) = 103 := (nI_eq (a := (ltr ft le sp)) (b := 103) (by have := ltr_lt (le := le) (sp := sp) hft; omega) (by have := ltr_lt (le := le) (sp := sp) hft; omega)).mp c8
    refine j_iconst (v := nI 1) EE dX10_statement_11 (by decide) ?_
    refine j_goto EE 16 dX10_statement_12 (by decide) ?_
    refine j_iload_n EE 2 dX10_statement_16 rfl rfl ?_
    refine j_icmp_eq EE 22 dX10_statement_17 (by decide) (fun c17 => absurd c17 (by decide)) (fun c17 => ?_)
    have n17 : 1 ≠ 0 := fun hq => c17 ((nI_eq (a := 1) (b := 0) (by omega) (by omega)).mpr hq)
    refine j_iconst (v := nI 0) EE dX10_statement_20 (by decide) ?_
    have hR : s0M ft le E sp = none := by
      unfold s0M
      (repeat (first | rw [if_pos (by omega)] | rw [if_neg (by omega)]))
    exact j_zret EE FF (by decide) dX10_statement_21 (sp + 1, (sA E)) ⟨fun q hq => by rw [hR] at hq; exact absurd hq (by simp), sA_99 hE9⟩ (by rw [hR]; rfl) rfl

end G_50_mod10
