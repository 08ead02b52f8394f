section G_47_mod8
variable {l : Launch} {D : va_G} {cI cC cJ cG : ClassId}

theorem upd_fA {a : Nat → Nat} {k c : Nat} : upd (fA a) k (nI c - nI 1) = fA (updN a k c) := by
  funext j
  unfold upd updN fA
  by_cases hj : j = k
  · subst hj; simp
  · simp [hj]
def lpP (a3 F : Nat → Nat) (k : Nat) : Nat → Nat := fun i => if i < k then F (87 + i) else a3 i
theorem lpP_0 (a3 F : Nat → Nat) : lpP a3 F 0 = a3 := by funext i; unfold lpP; rw [if_neg (by omega)]
theorem lpP_s (a3 F : Nat → Nat) (k : Nat) : updN (lpP a3 F k) k (F (87 + k)) = lpP a3 F (k + 1) := by
  funext i
  unfold updN lpP
  by_cases h : i = k
  · subst h; rw [if_pos rfl, if_pos (by omega)]
  · rw [if_neg h]
    by_cases h2 : i < k
    · rw [if_pos h2, if_pos (by omega)]
    · rw [if_neg h2, if_neg (by omega)]
def cpP (a3 : Nat → Nat) (v k : Nat) : Nat → Nat := fun i => if 22 * (v + 1) ≤ i ∧ i < 22 * (v + 1) + k then a3 (i - 22) else a3 i
theorem cpP_0 (a3 : Nat → Nat) (v : Nat) : cpP a3 v 0 = a3 := by funext i; unfold cpP; rw [if_neg (by omega)]
theorem cpP_s (a3 : Nat → Nat) (v k : Nat) (hk : k < 22) : updN (cpP a3 v k) (22 * (v + 1) + k) (cpP a3 v k (22 * v + k)) = cpP a3 v (k + 1) := by
  funext i
  unfold updN cpP
  by_cases h : i = 22 * (v + 1) + k
  · subst h
    rw [if_pos rfl, if_neg (by omega), if_pos (by omega)]
    congr 1; omega
  · rw [if_neg h]
    by_cases h2 : 22 * (v + 1) ≤ i ∧ i < 22 * (v + 1) + k
    · rw [if_pos h2, if_pos (by omega)]
    · rw [if_neg h2, if_neg (by omega)]
/-- the pile and the height behind a rule, from level v -/
def goP (F a2 a3 : Nat → Nat) (v r : Nat) : Nat → Nat := if F (5 + 5 * r + 4) = 0 then (if F (5 + 5 * r + 3) = 0 then cpP a3 v (a2 v - 1) else updN (cpP a3 v (a2 v - 1)) (22 * (v + 1) + (a2 v - 1)) (F (5 + 5 * r + 3) - 1))
  else (if F (5 + 5 * r + 3) = 0 then updN (cpP a3 v (a2 v - 1)) (22 * (v + 1) + (a2 v - 1)) (F (5 + 5 * r + 4) - 1) else updN (updN (cpP a3 v (a2 v - 1)) (22 * (v + 1) + (a2 v - 1)) (F (5 + 5 * r + 4) - 1)) (22 * (v + 1) + (a2 v - 1 + 1)) (F (5 + 5 * r + 3) - 1))
def goH (F a2 : Nat → Nat) (v r : Nat) : Nat := a2 v - 1 + (if F (5 + 5 * r + 4) = 0 then 0 else 1) + (if F (5 + 5 * r + 3) = 0 then 0 else 1)
def ltr (ft : Nat → Nat) (le sp : Nat) : Nat := if sp < le then ft sp else 0
theorem ltr_lt {ft : Nat → Nat} {le sp : Nat} (h : ∀ i, ft i < 65536) : ltr ft le sp < 65536 := by
  unfold ltr
  split
  · exact h _
  · omega
/-- a figure below b, one higher; 0: none -/
def fig (c b : Nat) : Nat := if 48 ≤ c ∧ c < 48 + b then c - 48 + 1 else 0
theorem fig_in {c b : Nat} (hc : c < 65536) (hb : b < 100) : inR (nI c - nI 48) b = decide (48 ≤ c ∧ c < 48 + b) := by
  unfold inR
  rw [pk_sub_toInt (by omega) (by decide)]
  by_cases h : 48 ≤ c ∧ c < 48 + b
  · rw [decide_eq_true h, decide_eq_true_eq]
    omega
  · rw [decide_eq_false h, decide_eq_false_iff_not]
    omega

theorem iw_X10_begins_X10 : ∀ w ∈ wsX100, w ∈ wsX10_begins := fun _ h => List.mem_cons_of_mem _ (List.mem_append_right _ h)
theorem lk_X10_begins_44 : Cond.fieldLink RX10 44 (TX10 15).1 (TX10 15).2.1 (TX10 15).2.2.1 ∈ wsX10_begins := List.mem_of_getElem? (i := 1) rfl
theorem lk_X10_begins_47 : Cond.fieldLink RX10 47 (TX10 16).1 (TX10 16).2.1 (TX10 16).2.2.1 ∈ wsX10_begins := List.mem_of_getElem? (i := 2) rfl
set_option maxHeartbeats 4000000 in
set_option maxRecDepth 100000 in
theorem c_X10_begins (h F Q ft B Bt a1 a2 a3 a4 a5 : Nat → Nat) (fr : Nat → Int32) (W M : Nat → Int64) (km le sp ro : Nat) (v : Nat) (hv : v < 9) : Ct l yX10_begins wsX10_begins (rmD (0)) D [(cI, .int), (cC, .char), (cJ, .long), (cG, .object "PushdownGameSolver$Game")] [.ref ((h 0)), .int (nI v)] [((h 0), .inr (6, [.ref ((h 1)), .ref ((h 2)), .ref ((h 3)), .int (nI km), .ref ((h 4)), .int (nI le), .int (nI sp), .ref ((h 5)), .ref ((h 6)), .int (nI ro), .ref ((h 7)), .ref ((h 8)), .ref ((h 9)), .ref ((h 10)), .ref ((h 11)), .ref ((h 12)), .ref ((h 13))])), ((h 1), .inl (cI, 99, .inl (sA F))), ((h 2), .inl (cI, 99, .inl fr)), ((h 3), .inl (cI, 594, .inl (kA Q))), ((h 4), .inl (cI, 200, .inl (fun zz => nI (ft zz)))), ((h 5), .inl (cI, 12, .inl (fun zz => nI (B zz)))), ((h 6), .inl (cI, 12, .inl (fun zz => nI (Bt zz)))), ((h 7), .inl (cJ, 16, .inr (.inl W))), ((h 8), .inl (cJ, 16, .inr (.inl M))), ((h 9), .inl (cI, 9, .inl (fun zz => nI (a1 zz)))), ((h 10), .inl (cI, 9, .inl (fun zz => nI (a2 zz)))), ((h 11), .inl (cI, 198, .inl (fun zz => nI (a3 zz)))), ((h 12), .inl (cI, 9, .inl (fun zz => nI (a4 zz)))), ((h 13), .inl (cI, 9, .inl (fA a5)))] (S := Unit) (fun _ => True) (fun _ => none) (fun _ => [((h 0), .inr (6, [.ref ((h 1)), .ref ((h 2)), .ref ((h 3)), .int (nI km), .ref ((h 4)), .int (nI le), .int (nI sp), .ref ((h 5)), .ref ((h 6)), .int (nI ro), .ref ((h 7)), .ref ((h 8)), .ref ((h 9)), .ref ((h 10)), .ref ((h 11)), .ref ((h 12)), .ref ((h 13))])), ((h 1), .inl (cI, 99, .inl (sA F))), ((h 2), .inl (cI, 99, .inl fr)), ((h 3), .inl (cI, 594, .inl (kA Q))), ((h 4), .inl (cI, 200, .inl (fun zz => nI (ft zz)))), ((h 5), .inl (cI, 12, .inl (fun zz => nI (B zz)))), ((h 6), .inl (cI, 12, .inl (fun zz => nI (Bt zz)))), ((h 7), .inl (cJ, 16, .inr (.inl W))), ((h 8), .inl (cJ, 16, .inr (.inl M))), ((h 9), .inl (cI, 9, .inl (fun zz => nI (a1 zz)))), ((h 10), .inl (cI, 9, .inl (fun zz => nI (a2 zz)))), ((h 11), .inl (cI, 198, .inl (fun zz => nI (a3 zz)))), ((h 12), .inl (cI, 9, .inl (fun zz => nI ((updN a4 v 0) zz)))), ((h 13), .inl (cI, 9, .inl (fA (updN a5 v 0))))]) := by
  refine Ct.of (lv := [(0, .ref ((h 0))), (1, .int (nI v))]) (by decide) rfl (Nat.le_of_ble_eq_true rfl) rfl ?_
  intro ε hL EE FF
  refine j_aload_n EE 0 dX10_begins_0 rfl rfl ?_
  refine j_get (T := TX10) EE iw_X10_begins_X10 0 rfl rfl 15 (by decide) lk_X10_begins_44 rfl dX10_begins_1 ?_
  refine j_iload_n EE 1 dX10_begins_4 rfl rfl ?_
  refine j_iconst (v := nI 0) EE dX10_begins_5 (by decide) ?_
  refine j_iast (ws' := [((h 0), .inr (6, [.ref ((h 1)), .ref ((h 2)), .ref ((h 3)), .int (nI km), .ref ((h 4)), .int (nI le), .int (nI sp), .ref ((h 5)), .ref ((h 6)), .int (nI ro), .ref ((h 7)), .ref ((h 8)), .ref ((h 9)), .ref ((h 10)), .ref ((h 11)), .ref ((h 12)), .ref ((h 13))])), ((h 1), .inl (cI, 99, .inl (sA F))), ((h 2), .inl (cI, 99, .inl fr)), ((h 3), .inl (cI, 594, .inl (kA Q))), ((h 4), .inl (cI, 200, .inl (fun zz => nI (ft zz)))), ((h 5), .inl (cI, 12, .inl (fun zz => nI (B zz)))), ((h 6), .inl (cI, 12, .inl (fun zz => nI (Bt zz)))), ((h 7), .inl (cJ, 16, .inr (.inl W))), ((h 8), .inl (cJ, 16, .inr (.inl M))), ((h 9), .inl (cI, 9, .inl (fun zz => nI (a1 zz)))), ((h 10), .inl (cI, 9, .inl (fun zz => nI (a2 zz)))), ((h 11), .inl (cI, 198, .inl (fun zz => nI (a3 zz)))), ((h 12), .inl (cI, 9, .inl (fun zz => nI ((updN a4 v 0) zz)))), ((h 13), .inl (cI, 9, .inl (fA a5)))]) EE 12 0 rfl rfl (vp_in_nI (n := v) (by omega) (by decide)) (by rw [nI_clamp (by omega), upd_N]; rfl) dX10_begins_6 ?_
  refine j_aload_n EE 0 dX10_begins_7 rfl rfl ?_
  refine j_get (T := TX10) EE iw_X10_begins_X10 0 rfl rfl 16 (by decide) lk_X10_begins_47 rfl dX10_begins_8 ?_
  refine j_iload_n EE 1 dX10_begins_11 rfl rfl ?_
  refine j_iconst (v := (-1)) EE dX10_begins_12 (by decide) ?_
  refine j_topE (y := nI 0 - nI 1) (by decide) ?_
  refine j_iast (ws' := [((h 0), .inr (6, [.ref ((h 1)), .ref ((h 2)), .ref ((h 3)), .int (nI km), .ref ((h 4)), .int (nI le), .int (nI sp), .ref ((h 5)), .ref ((h 6)), .int (nI ro), .ref ((h 7)), .ref ((h 8)), .ref ((h 9)), .ref ((h 10)), .ref ((h 11)), .ref ((h 12)), .ref ((h 13))])), ((h 1), .inl (cI, 99, .inl (sA F))), ((h 2), .inl (cI, 99, .inl fr)), ((h 3), .inl (cI, 594, .inl (kA Q))), ((h 4), .inl (cI, 200, .inl (fun zz => nI (ft zz)))), ((h 5), .inl (cI, 12, .inl (fun zz => nI (B zz)))), ((h 6), .inl (cI, 12, .inl (fun zz => nI (Bt zz)))), ((h 7), .inl (cJ, 16, .inr (.inl W))), ((h 8), .inl (cJ, 16, .inr (.inl M))), ((h 9), .inl (cI, 9, .inl (fun zz => nI (a1 zz)))), ((h 10), .inl (cI, 9, .inl (fun zz => nI (a2 zz)))), ((h 11), .inl (cI, 198, .inl (fun zz => nI (a3 zz)))), ((h 12), .inl (cI, 9, .inl (fun zz => nI ((updN a4 v 0) zz)))), ((h 13), .inl (cI, 9, .inl (fA (updN a5 v 0))))]) EE 13 0 rfl rfl (vp_in_nI (n := v) (by omega) (by decide)) (by rw [nI_clamp (by omega), upd_fA]; rfl) dX10_begins_13 ?_
  exact j_vret EE FF dX10_begins_14 () trivial rfl rfl

theorem iw_X10_layPresent_X10 : ∀ w ∈ wsX100, w ∈ wsX10_layPresent := fun _ h => List.mem_cons_of_mem _ (List.mem_append_right _ h)
theorem lk_X10_layPresent_7 : Cond.fieldLink RX10 7 (TX10 0).1 (TX10 0).2.1 (TX10 0).2.2.1 ∈ wsX10_layPresent := List.mem_of_getElem? (i := 2) rfl
theorem hd_X10_begins : yX10_begins.cls ≠ "java/lang/invoke/MethodHandle" ∧ yX10_begins.cls ≠ "java/lang/invoke/VarHandle" ∧ (parseMethodDescriptor yX10_begins.desc).map (fun d => d.parameters.length) = some 1 := by decide +kernel
theorem lk_X10_layPresent_41 : Cond.fieldLink RX10 41 (TX10 14).1 (TX10 14).2.1 (TX10 14).2.2.1 ∈ wsX10_layPresent := List.mem_of_getElem? (i := 4) rfl
theorem lk_X10_layPresent_35 : Cond.fieldLink RX10 35 (TX10 12).1 (TX10 12).2.1 (TX10 12).2.2.1 ∈ wsX10_layPresent := List.mem_of_getElem? (i := 1) rfl
theorem lk_X10_layPresent_38 : Cond.fieldLink RX10 38 (TX10 13).1 (TX10 13).2.1 (TX10 13).2.2.1 ∈ wsX10_layPresent := List.mem_of_getElem? (i := 3) rfl
set_option maxHeartbeats 4000000 in
set_option maxRecDepth 100000 in
theorem c_X10_layPresent (h F Q ft B Bt a1 a2 a3 a4 a5 : Nat → Nat) (fr : Nat → Int32) (W M : Nat → Int64) (km le sp ro : Nat) (hFb : ∀ i, F i < 65536) (h12 : F 86 ≤ 12) : Ct l yX10_layPresent wsX10_layPresent (rmD (1)) D [(cI, .int), (cC, .char), (cJ, .long), (cG, .object "PushdownGameSolver$Game")] [.ref ((h 0))] [((h 0), .inr (6, [.ref ((h 1)), .ref ((h 2)), .ref ((h 3)), .int (nI km), .ref ((h 4)), .int (nI le), .int (nI sp), .ref ((h 5)), .ref ((h 6)), .int (nI ro), .ref ((h 7)), .ref ((h 8)), .ref ((h 9)), .ref ((h 10)), .ref ((h 11)), .ref ((h 12)), .ref ((h 13))])), ((h 1), .inl (cI, 99, .inl (sA F))), ((h 2), .inl (cI, 99, .inl fr)), ((h 3), .inl (cI, 594, .inl (kA Q))), ((h 4), .inl (cI, 200, .inl (fun zz => nI (ft zz)))), ((h 5), .inl (cI, 12, .inl (fun zz => nI (B zz)))), ((h 6), .inl (cI, 12, .inl (fun zz => nI (Bt zz)))), ((h 7), .inl (cJ, 16, .inr (.inl W))), ((h 8), .inl (cJ, 16, .inr (.inl M))), ((h 9), .inl (cI, 9, .inl (fun zz => nI (a1 zz)))), ((h 10), .inl (cI, 9, .inl (fun zz => nI (a2 zz)))), ((h 11), .inl (cI, 198, .inl (fun zz => nI (a3 zz)))), ((h 12), .inl (cI, 9, .inl (fun zz => nI (a4 zz)))), ((h 13), .inl (cI, 9, .inl (fA a5)))] (S := Unit) (fun _ => True) (fun _ => none) (fun _ => [((h 0), .inr (6, [.ref ((h 1)), .ref ((h 2)), .ref ((h 3)), .int (nI km), .ref ((h 4)), .int (nI le), .int (nI sp), .ref ((h 5)), .ref ((h 6)), .int (nI ro), .ref ((h 7)), .ref ((h 8)), .ref ((h 9)), .ref ((h 10)), .ref ((h 11)), .ref ((h 12)), .ref ((h 13))])), ((h 1), .inl (cI, 99, .inl (sA F))), ((h 2), .inl (cI, 99, .inl fr)), ((h 3), .inl (cI, 594, .inl (kA Q))), ((h 4), .inl (cI, 200, .inl (fun zz => nI (ft zz)))), ((h 5), .inl (cI, 12, .inl (fun zz => nI (B zz)))), ((h 6), .inl (cI, 12, .inl (fun zz => nI (Bt zz)))), ((h 7), .inl (cJ, 16, .inr (.inl W))), ((h 8), .inl (cJ, 16, .inr (.inl M))), ((h 9), .inl (cI, 9, .inl (fun zz => nI ((updN a1 0 (F 85)) zz)))), ((h 10), .inl (cI, 9, .inl (fun zz => nI ((updN a2 0 (F 86)) zz)))), ((h 11), .inl (cI, 198, .inl (fun zz => nI ((lpP a3 F (F 86)) zz)))), ((h 12), .inl (cI, 9, .inl (fun zz => nI ((updN a4 0 0) zz)))), ((h 13), .inl (cI, 9, .inl (fA (updN a5 0 0))))]) := by
  refine Ct.of (lv := [(0, .ref ((h 0)))]) (by decide) rfl (Nat.le_of_ble_eq_true rfl) rfl ?_
  intro ε hL EE FF
  have Lp_28 : ∀ (nf : Nat), ∀ (k : Nat), 13 - k < nf → (k ≤ F 86) → J l (rmD (1)) D ε [((h 0), .inr (6, [.ref ((h 1)), .ref ((h 2)), .ref ((h 3)), .int (nI km), .ref ((h 4)), .int (nI le), .int (nI sp), .ref ((h 5)), .ref ((h 6)), .int (nI ro), .ref ((h 7)), .ref ((h 8)), .ref ((h 9)), .ref ((h 10)), .ref ((h 11)), .ref ((h 12)), .ref ((h 13))])), ((h 1), .inl (cI, 99, .inl (sA F))), ((h 2), .inl (cI, 99, .inl fr)), ((h 3), .inl (cI, 594, .inl (kA Q))), ((h 4), .inl (cI, 200, .inl (fun zz => nI (ft zz)))), ((h 5), .inl (cI, 12, .inl (fun zz => nI (B zz)))), ((h 6), .inl (cI, 12, .inl (fun zz => nI (Bt zz)))), ((h 7), .inl (cJ, 16, .inr (.inl W))), ((h 8), .inl (cJ, 16, .inr (.inl M))), ((h 9), .inl (cI, 9, .inl (fun zz => nI ((updN a1 0 (F 85)) zz)))), ((h 10), .inl (cI, 9, .inl (fun zz => nI ((updN a2 0 (F 86)) zz)))), ((h 11), .inl (cI, 198, .inl (fun zz => nI ((lpP a3 F k) zz)))), ((h 12), .inl (cI, 9, .inl (fun zz => nI (a4 zz)))), ((h 13), .inl (cI, 9, .inl (fA a5)))] 28 [(1, .int (nI k)), (0, .ref ((h 0)))] [] := by
    intro nf
    induction nf with
    | zero => intro k hm; exact absurd hm (Nat.not_lt_zero _)
    | succ nf ihp_28 =>
      intro k hm28 hk
      refine j_iload_n EE 0 dX10_layPresent_28 rfl rfl ?_
      refine j_aload_n EE 1 dX10_layPresent_29 rfl rfl ?_
      refine j_get (T := TX10) EE iw_X10_layPresent_X10 0 rfl rfl 0 (by decide) lk_X10_layPresent_7 rfl dX10_layPresent_30 ?_
      refine j_bipush (v := nI 86) EE dX10_layPresent_33 (by decide) ?_
      refine j_iald EE 1 0 rfl rfl (vp_in_nI (n := 86) (by omega) (by decide)) dX10_layPresent_35 ?_
      refine j_topE (congrArg (sA F) (nI_clamp (n := 86) (by omega))) ?_
      refine j_topE (y := nI (F 86)) (sA_n (by omega)) ?_
      refine j_icmp_ge EE 60 dX10_layPresent_36 (by decide) (fun c36 => ?_) (fun c36 => ?_)
      · skip
        have n36 : (F 86) ≤ k := (nI_leI (a := (F 86)) (b := k) (by have := hFb 86; omega) (by have := hFb 86; omega)).mp c36
        refine j_aload_n EE 1 dX10_layPresent_60 rfl rfl ?_
        refine j_iconst (v := nI 0) EE dX10_layPresent_61 (by decide) ?_
        refine j_V2 (n9 := 14) EE (c_X10_begins h F Q ft B Bt (updN a1 0 (F 85)) (updN a2 0 (F 86)) (lpP a3 F k) a4 a5 fr W M km le sp ro 0 (by omega)) gX10_layPresent_X10_begins ⟨rfl, hd_X10_begins⟩ rfl ⟨rfl, rfl⟩ ⟨by decide, by decide⟩ rfl [0, 1, 2, 3, 4, 5, 6, 7, 8, 9, 10, 11, 12, 13] rfl [] [((h 0), .inr (6, [.ref ((h 1)), .ref ((h 2)), .ref ((h 3)), .int (nI km), .ref ((h 4)), .int (nI le), .int (nI sp), .ref ((h 5)), .ref ((h 6)), .int (nI ro), .ref ((h 7)), .ref ((h 8)), .ref ((h 9)), .ref ((h 10)), .ref ((h 11)), .ref ((h 12)), .ref ((h 13))])), ((h 1), .inl (cI, 99, .inl (sA F))), ((h 2), .inl (cI, 99, .inl fr)), ((h 3), .inl (cI, 594, .inl (kA Q))), ((h 4), .inl (cI, 200, .inl (fun zz => nI (ft zz)))), ((h 5), .inl (cI, 12, .inl (fun zz => nI (B zz)))), ((h 6), .inl (cI, 12, .inl (fun zz => nI (Bt zz)))), ((h 7), .inl (cJ, 16, .inr (.inl W))), ((h 8), .inl (cJ, 16, .inr (.inl M))), ((h 9), .inl (cI, 9, .inl (fun zz => nI ((updN a1 0 (F 85)) zz)))), ((h 10), .inl (cI, 9, .inl (fun zz => nI ((updN a2 0 (F 86)) zz)))), ((h 11), .inl (cI, 198, .inl (fun zz => nI ((lpP a3 F k) zz)))), ((h 12), .inl (cI, 9, .inl (fun zz => nI ((updN a4 0 0) zz)))), ((h 13), .inl (cI, 9, .inl (fA (updN a5 0 0))))] (fun _ => rfl) [] [(h 0), (h 1), (h 2), (h 3), (h 4), (h 5), (h 6), (h 7), (h 8), (h 9), (h 10), (h 11), (h 12), (h 13)] rfl rfl rfl rfl rfl (by decide) (by decide) 0 rfl rfl rfl (Nat.le_of_ble_eq_true rfl) dX10_layPresent_62 (fun u_62 h_62 => ?_) rfl
        exact j_vret EE FF dX10_layPresent_65 () trivial rfl (by rw [show k = F 86 by omega])
      · skip
        have n36 : ¬ (F 86) ≤ k := fun hq => c36 ((nI_leI (a := (F 86)) (b := k) (by have := hFb 86; omega) (by have := hFb 86; omega)).mpr hq)
        refine j_aload_n EE 1 dX10_layPresent_39 rfl rfl ?_
        refine j_get (T := TX10) EE iw_X10_layPresent_X10 0 rfl rfl 14 (by decide) lk_X10_layPresent_41 rfl dX10_layPresent_40 ?_
        refine j_iload_n EE 0 dX10_layPresent_43 rfl rfl ?_
        refine j_aload_n EE 1 dX10_layPresent_44 rfl rfl ?_
        refine j_get (T := TX10) EE iw_X10_layPresent_X10 0 rfl rfl 0 (by decide) lk_X10_layPresent_7 rfl dX10_layPresent_45 ?_
        refine j_bipush (v := nI 87) EE dX10_layPresent_48 (by decide) ?_
        refine j_iload_n EE 0 dX10_layPresent_50 rfl rfl ?_
        refine j_iadd EE dX10_layPresent_51 ?_
        refine j_topE (nI_add 87 k) ?_
        refine j_iald EE 1 0 rfl rfl (vp_in_nI (n := 87 + k) (by omega) (by decide)) dX10_layPresent_52 ?_
        refine j_topE (congrArg (sA F) (nI_clamp (n := 87 + k) (by omega))) ?_
        refine j_topE (y := nI (F (87 + k))) (sA_n (by omega)) ?_
        refine j_iast (ws' := [((h 0), .inr (6, [.ref ((h 1)), .ref ((h 2)), .ref ((h 3)), .int (nI km), .ref ((h 4)), .int (nI le), .int (nI sp), .ref ((h 5)), .ref ((h 6)), .int (nI ro), .ref ((h 7)), .ref ((h 8)), .ref ((h 9)), .ref ((h 10)), .ref ((h 11)), .ref ((h 12)), .ref ((h 13))])), ((h 1), .inl (cI, 99, .inl (sA F))), ((h 2), .inl (cI, 99, .inl fr)), ((h 3), .inl (cI, 594, .inl (kA Q))), ((h 4), .inl (cI, 200, .inl (fun zz => nI (ft zz)))), ((h 5), .inl (cI, 12, .inl (fun zz => nI (B zz)))), ((h 6), .inl (cI, 12, .inl (fun zz => nI (Bt zz)))), ((h 7), .inl (cJ, 16, .inr (.inl W))), ((h 8), .inl (cJ, 16, .inr (.inl M))), ((h 9), .inl (cI, 9, .inl (fun zz => nI ((updN a1 0 (F 85)) zz)))), ((h 10), .inl (cI, 9, .inl (fun zz => nI ((updN a2 0 (F 86)) zz)))), ((h 11), .inl (cI, 198, .inl (fun zz => nI ((lpP a3 F (k + 1)) zz)))), ((h 12), .inl (cI, 9, .inl (fun zz => nI (a4 zz)))), ((h 13), .inl (cI, 9, .inl (fA a5)))]) EE 11 0 rfl rfl (vp_in_nI (n := k) (by omega) (by decide)) (by rw [nI_clamp (by omega), upd_N, lpP_s]; rfl) dX10_layPresent_53 ?_
        refine j_iinc (v := nI (k + 1)) EE 0 [(1, .int (nI (k + 1))), (0, _)] dX10_layPresent_54 rfl (nI_1 k) (Nat.lt_of_lt_of_eq (by decide) hL.symm) rfl ?_
        refine j_goto EE 28 dX10_layPresent_57 (by decide) ?_
        exact ihp_28 (k + 1) (by omega) (by omega)
  refine j_aload_n EE 0 dX10_layPresent_0 rfl rfl ?_
  refine j_get (T := TX10) EE iw_X10_layPresent_X10 0 rfl rfl 12 (by decide) lk_X10_layPresent_35 rfl dX10_layPresent_1 ?_
  refine j_iconst (v := nI 0) EE dX10_layPresent_4 (by decide) ?_
  refine j_aload_n EE 0 dX10_layPresent_5 rfl rfl ?_
  refine j_get (T := TX10) EE iw_X10_layPresent_X10 0 rfl rfl 0 (by decide) lk_X10_layPresent_7 rfl dX10_layPresent_6 ?_
  refine j_bipush (v := nI 85) EE dX10_layPresent_9 (by decide) ?_
  refine j_iald EE 1 0 rfl rfl (vp_in_nI (n := 85) (by omega) (by decide)) dX10_layPresent_11 ?_
  refine j_topE (congrArg (sA F) (nI_clamp (n := 85) (by omega))) ?_
  refine j_topE (y := nI (F 85)) (sA_n (by omega)) ?_
  refine j_iast (ws' := [((h 0), .inr (6, [.ref ((h 1)), .ref ((h 2)), .ref ((h 3)), .int (nI km), .ref ((h 4)), .int (nI le), .int (nI sp), .ref ((h 5)), .ref ((h 6)), .int (nI ro), .ref ((h 7)), .ref ((h 8)), .ref ((h 9)), .ref ((h 10)), .ref ((h 11)), .ref ((h 12)), .ref ((h 13))])), ((h 1), .inl (cI, 99, .inl (sA F))), ((h 2), .inl (cI, 99, .inl fr)), ((h 3), .inl (cI, 594, .inl (kA Q))), ((h 4), .inl (cI, 200, .inl (fun zz => nI (ft zz)))), ((h 5), .inl (cI, 12, .inl (fun zz => nI (B zz)))), ((h 6), .inl (cI, 12, .inl (fun zz => nI (Bt zz)))), ((h 7), .inl (cJ, 16, .inr (.inl W))), ((h 8), .inl (cJ, 16, .inr (.inl M))), ((h 9), .inl (cI, 9, .inl (fun zz => nI ((updN a1 0 (F 85)) zz)))), ((h 10), .inl (cI, 9, .inl (fun zz => nI (a2 zz)))), ((h 11), .inl (cI, 198, .inl (fun zz => nI (a3 zz)))), ((h 12), .inl (cI, 9, .inl (fun zz => nI (a4 zz)))), ((h 13), .inl (cI, 9, .inl (fA a5)))]) EE 9 0 rfl rfl (vp_in_nI (n := 0) (by omega) (by decide)) (by rw [nI_clamp (by omega), upd_N]; rfl) dX10_layPresent_12 ?_
  refine j_aload_n EE 0 dX10_layPresent_13 rfl rfl ?_
  refine j_get (T := TX10) EE iw_X10_layPresent_X10 0 rfl rfl 13 (by decide) lk_X10_layPresent_38 rfl dX10_layPresent_14 ?_
  refine j_iconst (v := nI 0) EE dX10_layPresent_17 (by decide) ?_
  refine j_aload_n EE 0 dX10_layPresent_18 rfl rfl ?_
  refine j_get (T := TX10) EE iw_X10_layPresent_X10 0 rfl rfl 0 (by decide) lk_X10_layPresent_7 rfl dX10_layPresent_19 ?_
  refine j_bipush (v := nI 86) EE dX10_layPresent_22 (by decide) ?_
  refine j_iald EE 1 0 rfl rfl (vp_in_nI (n := 86) (by omega) (by decide)) dX10_layPresent_24 ?_
  refine j_topE (congrArg (sA F) (nI_clamp (n := 86) (by omega))) ?_
  refine j_topE (y := nI (F 86)) (sA_n (by omega)) ?_
  refine j_iast (ws' := [((h 0), .inr (6, [.ref ((h 1)), .ref ((h 2)), .ref ((h 3)), .int (nI km), .ref ((h 4)), .int (nI le), .int (nI sp), .ref ((h 5)), .ref ((h 6)), .int (nI ro), .ref ((h 7)), .ref ((h 8)), .ref ((h 9)), .ref ((h 10)), .ref ((h 11)), .ref ((h 12)), .ref ((h 13))])), ((h 1), .inl (cI, 99, .inl (sA F))), ((h 2), .inl (cI, 99, .inl fr)), ((h 3), .inl (cI, 594, .inl (kA Q))), ((h 4), .inl (cI, 200, .inl (fun zz => nI (ft zz)))), ((h 5), .inl (cI, 12, .inl (fun zz => nI (B zz)))), ((h 6), .inl (cI, 12, .inl (fun zz => nI (Bt zz)))), ((h 7), .inl (cJ, 16, .inr (.inl W))), ((h 8), .inl (cJ, 16, .inr (.inl M))), ((h 9), .inl (cI, 9, .inl (fun zz => nI ((updN a1 0 (F 85)) zz)))), ((h 10), .inl (cI, 9, .inl (fun zz => nI ((updN a2 0 (F 86)) zz)))), ((h 11), .inl (cI, 198, .inl (fun zz => nI (a3 zz)))), ((h 12), .inl (cI, 9, .inl (fun zz => nI (a4 zz)))), ((h 13), .inl (cI, 9, .inl (fA a5)))]) EE 10 0 rfl rfl (vp_in_nI (n := 0) (by omega) (by decide)) (by rw [nI_clamp (by omega), upd_N]; rfl) dX10_layPresent_25 ?_
  refine j_iconst (v := nI 0) EE dX10_layPresent_26 (by decide) ?_
  refine j_istore_n EE [(1, _), (0, _)] dX10_layPresent_27 rfl (Nat.lt_of_lt_of_eq (by decide) hL.symm) rfl ?_
  rw [← lpP_0 a3 F]
  exact Lp_28 _ 0 (Nat.lt_succ_self _) (by omega)

theorem iw_X10_isPlayableAt_X10 : ∀ w ∈ wsX100, w ∈ wsX10_isPlayableAt := fun _ h => List.mem_cons_of_mem _ (List.mem_append_right _ h)
theorem lk_X10_isPlayableAt_38 : Cond.fieldLink RX10 38 (TX10 13).1 (TX10 13).2.1 (TX10 13).2.2.1 ∈ wsX10_isPlayableAt := List.mem_of_getElem? (i := 1) rfl
theorem lk_X10_isPlayableAt_35 : Cond.fieldLink RX10 35 (TX10 12).1 (TX10 12).2.1 (TX10 12).2.2.1 ∈ wsX10_isPlayableAt := List.mem_of_getElem? (i := 2) rfl
theorem lk_X10_isPlayableAt_41 : Cond.fieldLink RX10 41 (TX10 14).1 (TX10 14).2.1 (TX10 14).2.2.1 ∈ wsX10_isPlayableAt := List.mem_of_getElem? (i := 3) rfl
set_option maxHeartbeats 4000000 in
set_option maxRecDepth 100000 in
theorem c_X10_isPlayableAt (h F Q ft B Bt a1 a2 a3 a4 a5 : Nat → Nat) (fr : Nat → Int32) (W M : Nat → Int64) (km le sp ro : Nat) (v r : Nat) (hFb : ∀ i, F i < 65536) (hb1 : ∀ i, a1 i < 65536) (hb3 : ∀ i, a3 i < 65536) (hv : v < 9) (hr : r < 16) (h2 : a2 v ≤ 22) : Ct l yX10_isPlayableAt wsX10_isPlayableAt (rmD (1)) D [(cI, .int), (cC, .char), (cJ, .long), (cG, .object "PushdownGameSolver$Game")] [.ref ((h 0)), .int (nI v), .int (nI r)] [((h 0), .inr (6, [.ref ((h 1)), .ref ((h 2)), .ref ((h 3)), .int (nI km), .ref ((h 4)), .int (nI le), .int (nI sp), .ref ((h 5)), .ref ((h 6)), .int (nI ro), .ref ((h 7)), .ref ((h 8)), .ref ((h 9)), .ref ((h 10)), .ref ((h 11)), .ref ((h 12)), .ref ((h 13))])), ((h 1), .inl (cI, 99, .inl (sA F))), ((h 2), .inl (cI, 99, .inl fr)), ((h 3), .inl (cI, 594, .inl (kA Q))), ((h 4), .inl (cI, 200, .inl (fun zz => nI (ft zz)))), ((h 5), .inl (cI, 12, .inl (fun zz => nI (B zz)))), ((h 6), .inl (cI, 12, .inl (fun zz => nI (Bt zz)))), ((h 7), .inl (cJ, 16, .inr (.inl W))), ((h 8), .inl (cJ, 16, .inr (.inl M))), ((h 9), .inl (cI, 9, .inl (fun zz => nI (a1 zz)))), ((h 10), .inl (cI, 9, .inl (fun zz => nI (a2 zz)))), ((h 11), .inl (cI, 198, .inl (fun zz => nI (a3 zz)))), ((h 12), .inl (cI, 9, .inl (fun zz => nI (a4 zz)))), ((h 13), .inl (cI, 9, .inl (fA a5)))] (S := Unit) (fun _ => True) (fun _ => some (.int (nI (b2n (decide (0 < a2 v ∧ F (5 + 5 * r) = a1 v ∧ F (5 + 5 * r + 1) = a3 (22 * v + a2 v - 1))))))) (fun _ => [((h 0), .inr (6, [.ref ((h 1)), .ref ((h 2)), .ref ((h 3)), .int (nI km), .ref ((h 4)), .int (nI le), .int (nI sp), .ref ((h 5)), .ref ((h 6)), .int (nI ro), .ref ((h 7)), .ref ((h 8)), .ref ((h 9)), .ref ((h 10)), .ref ((h 11)), .ref ((h 12)), .ref ((h 13))])), ((h 1), .inl (cI, 99, .inl (sA F))), ((h 2), .inl (cI, 99, .inl fr)), ((h 3), .inl (cI, 594, .inl (kA Q))), ((h 4), .inl (cI, 200, .inl (fun zz => nI (ft zz)))), ((h 5), .inl (cI, 12, .inl (fun zz => nI (B zz)))), ((h 6), .inl (cI, 12, .inl (fun zz => nI (Bt zz)))), ((h 7), .inl (cJ, 16, .inr (.inl W))), ((h 8), .inl (cJ, 16, .inr (.inl M))), ((h 9), .inl (cI, 9, .inl (fun zz => nI (a1 zz)))), ((h 10), .inl (cI, 9, .inl (fun zz => nI (a2 zz)))), ((h 11), .inl (cI, 198, .inl (fun zz => nI (a3 zz)))), ((h 12), .inl (cI, 9, .inl (fun zz => nI (a4 zz)))), ((h 13), .inl (cI, 9, .inl (fA a5)))]) := by
  refine Ct.of (lv := [(0, .ref ((h 0))), (1, .int (nI v)), (2, .int (nI r))]) (by decide) rfl (Nat.le_of_ble_eq_true rfl) rfl ?_
  intro ε hL EE FF
  have hc1 := hb1 v
  have hc3 := hb3 (22 * v + a2 v - 1)
  refine j_aload_n EE 0 dX10_isPlayableAt_0 rfl rfl ?_
  refine j_get (T := TX10) EE iw_X10_isPlayableAt_X10 0 rfl rfl 13 (by decide) lk_X10_isPlayableAt_38 rfl dX10_isPlayableAt_1 ?_
  refine j_iload_n EE 1 dX10_isPlayableAt_4 rfl rfl ?_
  refine j_iald EE 10 0 rfl rfl (vp_in_nI (n := v) (by omega) (by decide)) dX10_isPlayableAt_5 ?_
  refine j_topE (congrArg (fun zz => nI (a2 zz)) (nI_clamp (n := v) (by omega))) ?_
  refine j_topE (y := nI (a2 v)) rfl ?_
  refine j_if_le EE 55 dX10_isPlayableAt_6 (by decide) (fun c6 => ?_) (fun c6 => ?_)
  · skip
    have n6 : (a2 v) ≤ 0 := (nI_leI (a := (a2 v)) (b := 0) (by omega) (by omega)).mp c6
    refine j_iconst (v := nI 0) EE dX10_isPlayableAt_55 (by decide) ?_
    exact j_zret EE FF (by decide) dX10_isPlayableAt_56 () trivial (by first | (rw [decide_eq_true ⟨by omega, n21, n48⟩]; rfl) | (rw [decide_eq_false (fun z => n48 z.2.2)]; rfl) | (rw [decide_eq_false (fun z => n21 z.2.1)]; rfl) | (rw [decide_eq_false (fun z => absurd z.1 (by omega))]; rfl)) rfl
  · skip
    have n6 : ¬ (a2 v) ≤ 0 := fun hq => c6 ((nI_leI (a := (a2 v)) (b := 0) (by omega) (by omega)).mpr hq)
    refine j_aload_n EE 0 dX10_isPlayableAt_9 rfl rfl ?_
    refine j_iload_n EE 2 dX10_isPlayableAt_10 rfl rfl ?_
    refine j_iconst (v := nI 0) EE dX10_isPlayableAt_11 (by decide) ?_
    refine j_V2 (n9 := 14) EE (c_X10_ofRule h F Q ft B Bt a1 a2 a3 a4 a5 fr W M km le sp ro r 0 (by omega) (by omega)) gX10_isPlayableAt_X10_ofRule ⟨rfl, hd_X10_ofRule⟩ rfl ⟨rfl, rfl⟩ ⟨by decide, by decide⟩ rfl [0, 1, 2, 3, 4, 5, 6, 7, 8, 9, 10, 11, 12, 13] rfl [] [((h 0), .inr (6, [.ref ((h 1)), .ref ((h 2)), .ref ((h 3)), .int (nI km), .ref ((h 4)), .int (nI le), .int (nI sp), .ref ((h 5)), .ref ((h 6)), .int (nI ro), .ref ((h 7)), .ref ((h 8)), .ref ((h 9)), .ref ((h 10)), .ref ((h 11)), .ref ((h 12)), .ref ((h 13))])), ((h 1), .inl (cI, 99, .inl (sA F))), ((h 2), .inl (cI, 99, .inl fr)), ((h 3), .inl (cI, 594, .inl (kA Q))), ((h 4), .inl (cI, 200, .inl (fun zz => nI (ft zz)))), ((h 5), .inl (cI, 12, .inl (fun zz => nI (B zz)))), ((h 6), .inl (cI, 12, .inl (fun zz => nI (Bt zz)))), ((h 7), .inl (cJ, 16, .inr (.inl W))), ((h 8), .inl (cJ, 16, .inr (.inl M))), ((h 9), .inl (cI, 9, .inl (fun zz => nI (a1 zz)))), ((h 10), .inl (cI, 9, .inl (fun zz => nI (a2 zz)))), ((h 11), .inl (cI, 198, .inl (fun zz => nI (a3 zz)))), ((h 12), .inl (cI, 9, .inl (fun zz => nI (a4 zz)))), ((h 13), .inl (cI, 9, .inl (fA a5)))] (fun _ => rfl) [] [(h 0), (h 1), (h 2), (h 3), (h 4), (h 5), (h 6), (h 7), (h 8), (h 9), (h 10), (h 11), (h 12), (h 13)] rfl rfl rfl rfl rfl (by decide) (by decide) 0 rfl rfl rfl (Nat.le_of_ble_eq_true rfl) dX10_isPlayableAt_12 (fun u_12 h_12 => ?_) rfl
    show J l _ D ε _ _ _ (.int (nI (F (5 + 5 * r + 0))) :: _)
    refine j_aload_n EE 0 dX10_isPlayableAt_15 rfl rfl ?_
    refine j_get (T := TX10) EE iw_X10_isPlayableAt_X10 0 rfl rfl 12 (by decide) lk_X10_isPlayableAt_35 rfl dX10_isPlayableAt_16 ?_
    refine j_iload_n EE 1 dX10_isPlayableAt_19 rfl rfl ?_
    refine j_iald EE 9 0 rfl rfl (vp_in_nI (n := v) (by omega) (by decide)) dX10_isPlayableAt_20 ?_
    refine j_topE (congrArg (fun zz => nI (a1 zz)) (nI_clamp (n := v) (by omega))) ?_
    refine j_topE (y := nI (a1 v)) rfl ?_
    refine j_icmp_ne EE 55 dX10_isPlayableAt_21 (by decide) (fun c21 => ?_) (fun c21 => ?_)
    · skip
      have n21 : (F (5 + 5 * r + 0)) ≠ (a1 v) := fun hq => c21 ((nI_eq (a := (F (5 + 5 * r + 0))) (b := (a1 v)) (by have := hFb (5 + 5 * r + 0); omega) (by have := hFb (5 + 5 * r + 0); omega)).mpr hq)
      refine j_iconst (v := nI 0) EE dX10_isPlayableAt_55 (by decide) ?_
      exact j_zret EE FF (by decide) dX10_isPlayableAt_56 () trivial (by first | (rw [decide_eq_true ⟨by omega, n21, n48⟩]; rfl) | (rw [decide_eq_false (fun z => n48 z.2.2)]; rfl) | (rw [decide_eq_false (fun z => n21 z.2.1)]; rfl) | (rw [decide_eq_false (fun z => absurd z.1 (by omega))]; rfl)) rfl
    · skip
      have n21 : (F (5 + 5 * r + 0)) = (a1 v) := (nI_eq (a := (F (5 + 5 * r + 0))) (b := (a1 v)) (by have := hFb (5 + 5 * r + 0); omega) (by have := hFb (5 + 5 * r + 0); omega)).mp c21
      refine j_aload_n EE 0 dX10_isPlayableAt_24 rfl rfl ?_
      refine j_iload_n EE 2 dX10_isPlayableAt_25 rfl rfl ?_
      refine j_iconst (v := nI 1) EE dX10_isPlayableAt_26 (by decide) ?_
      refine j_V2 (n9 := 14) EE (c_X10_ofRule h F Q ft B Bt a1 a2 a3 a4 a5 fr W M km le sp ro r 1 (by omega) (by omega)) gX10_isPlayableAt_X10_ofRule ⟨rfl, hd_X10_ofRule⟩ rfl ⟨rfl, rfl⟩ ⟨by decide, by decide⟩ rfl [0, 1, 2, 3, 4, 5, 6, 7, 8, 9, 10, 11, 12, 13] rfl [] [((h 0), .inr (6, [.ref ((h 1)), .ref ((h 2)), .ref ((h 3)), .int (nI km), .ref ((h 4)), .int (nI le), .int (nI sp), .ref ((h 5)), .ref ((h 6)), .int (nI ro), .ref ((h 7)), .ref ((h 8)), .ref ((h 9)), .ref ((h 10)), .ref ((h 11)), .ref ((h 12)), .ref ((h 13))])), ((h 1), .inl (cI, 99, .inl (sA F))), ((h 2), .inl (cI, 99, .inl fr)), ((h 3), .inl (cI, 594, .inl (kA Q))), ((h 4), .inl (cI, 200, .inl (fun zz => nI (ft zz)))), ((h 5), .inl (cI, 12, .inl (fun zz => nI (B zz)))), ((h 6), .inl (cI, 12, .inl (fun zz => nI (Bt zz)))), ((h 7), .inl (cJ, 16, .inr (.inl W))), ((h 8), .inl (cJ, 16, .inr (.inl M))), ((h 9), .inl (cI, 9, .inl (fun zz => nI (a1 zz)))), ((h 10), .inl (cI, 9, .inl (fun zz => nI (a2 zz)))), ((h 11), .inl (cI, 198, .inl (fun zz => nI (a3 zz)))), ((h 12), .inl (cI, 9, .inl (fun zz => nI (a4 zz)))), ((h 13), .inl (cI, 9, .inl (fA a5)))] (fun _ => rfl) [] [(h 0), (h 1), (h 2), (h 3), (h 4), (h 5), (h 6), (h 7), (h 8), (h 9), (h 10), (h 11), (h 12), (h 13)] rfl rfl rfl rfl rfl (by decide) (by decide) 0 rfl rfl rfl (Nat.le_of_ble_eq_true rfl) dX10_isPlayableAt_27 (fun u_27 h_27 => ?_) rfl
      show J l _ D ε _ _ _ (.int (nI (F (5 + 5 * r + 1))) :: _)
      refine j_aload_n EE 0 dX10_isPlayableAt_30 rfl rfl ?_
      refine j_get (T := TX10) EE iw_X10_isPlayableAt_X10 0 rfl rfl 14 (by decide) lk_X10_isPlayableAt_41 rfl dX10_isPlayableAt_31 ?_
      refine j_bipush (v := nI 22) EE dX10_isPlayableAt_34 (by decide) ?_
      refine j_iload_n EE 1 dX10_isPlayableAt_36 rfl rfl ?_
      refine j_imul EE dX10_isPlayableAt_37 ?_
      refine j_topE (pk_mul 22 v) ?_
      refine j_aload_n EE 0 dX10_isPlayableAt_38 rfl rfl ?_
      refine j_get (T := TX10) EE iw_X10_isPlayableAt_X10 0 rfl rfl 13 (by decide) lk_X10_isPlayableAt_38 rfl dX10_isPlayableAt_39 ?_
      refine j_iload_n EE 1 dX10_isPlayableAt_42 rfl rfl ?_
      refine j_iald EE 10 0 rfl rfl (vp_in_nI (n := v) (by omega) (by decide)) dX10_isPlayableAt_43 ?_
      refine j_topE (congrArg (fun zz => nI (a2 zz)) (nI_clamp (n := v) (by omega))) ?_
      refine j_topE (y := nI (a2 v)) rfl ?_
      refine j_iadd EE dX10_isPlayableAt_44 ?_
      refine j_topE (nI_add (22 * v) (a2 v)) ?_
      refine j_iconst (v := nI 1) EE dX10_isPlayableAt_45 (by decide) ?_
      refine j_isub EE dX10_isPlayableAt_46 ?_
      refine j_topE (pk_sub (a := (22 * v) + (a2 v)) (b := 1) (by omega)) ?_
      refine j_iald EE 11 0 rfl rfl (vp_in_nI (n := ((22 * v) + (a2 v)) - 1) (by omega) (by decide)) dX10_isPlayableAt_47 ?_
      refine j_topE (congrArg (fun zz => nI (a3 zz)) (nI_clamp (n := ((22 * v) + (a2 v)) - 1) (by omega))) ?_
      refine j_topE (y := nI (a3 (((22 * v) + (a2 v)) - 1))) rfl ?_
      refine j_icmp_ne EE 55 dX10_isPlayableAt_48 (by decide) (fun c48 => ?_) (fun c48 => ?_)
      · skip
        have n48 : (F (5 + 5 * r + 1)) ≠ (a3 (((22 * v) + (a2 v)) - 1)) := fun hq => c48 ((nI_eq (a := (F (5 + 5 * r + 1))) (b := (a3 (((22 * v) + (a2 v)) - 1))) (by have := hFb (5 + 5 * r + 1); omega) (by have := hFb (5 + 5 * r + 1); omega)).mpr hq)
        refine j_iconst (v := nI 0) EE dX10_isPlayableAt_55 (by decide) ?_
        exact j_zret EE FF (by decide) dX10_isPlayableAt_56 () trivial (by first | (rw [decide_eq_true ⟨by omega, n21, n48⟩]; rfl) | (rw [decide_eq_false (fun z => n48 z.2.2)]; rfl) | (rw [decide_eq_false (fun z => n21 z.2.1)]; rfl) | (rw [decide_eq_false (fun z => absurd z.1 (by omega))]; rfl)) rfl
      · skip
        have n48 : (F (5 + 5 * r + 1)) = (a3 (((22 * v) + (a2 v)) - 1)) := (nI_eq (a := (F (5 + 5 * r + 1))) (b := (a3 (((22 * v) + (a2 v)) - 1))) (by have := hFb (5 + 5 * r + 1); omega) (by have := hFb (5 + 5 * r + 1); omega)).mp c48
        refine j_iconst (v := nI 1) EE dX10_isPlayableAt_51 (by decide) ?_
        refine j_goto EE 56 dX10_isPlayableAt_52 (by decide) ?_
        exact j_zret EE FF (by decide) dX10_isPlayableAt_56 () trivial (by first | (rw [decide_eq_true ⟨by omega, n21, n48⟩]; rfl) | (rw [decide_eq_false (fun z => n48 z.2.2)]; rfl) | (rw [decide_eq_false (fun z => n21 z.2.1)]; rfl) | (rw [decide_eq_false (fun z => absurd z.1 (by omega))]; rfl)) rfl

theorem iw_X10_goes_X10 : ∀ w ∈ wsX100, w ∈ wsX10_goes := fun _ h => List.mem_cons_of_mem _ (List.mem_append_right _ h)
theorem lk_X10_goes_38 : Cond.fieldLink RX10 38 (TX10 13).1 (TX10 13).2.1 (TX10 13).2.2.1 ∈ wsX10_goes := List.mem_of_getElem? (i := 1) rfl
theorem lk_X10_goes_35 : Cond.fieldLink RX10 35 (TX10 12).1 (TX10 12).2.1 (TX10 12).2.2.1 ∈ wsX10_goes := List.mem_of_getElem? (i := 3) rfl
theorem lk_X10_goes_41 : Cond.fieldLink RX10 41 (TX10 14).1 (TX10 14).2.1 (TX10 14).2.2.1 ∈ wsX10_goes := List.mem_of_getElem? (i := 2) rfl
set_option maxHeartbeats 4000000 in
set_option maxRecDepth 100000 in
theorem c_X10_goes (h F Q ft B Bt a1 a2 a3 a4 a5 : Nat → Nat) (fr : Nat → Int32) (W M : Nat → Int64) (km le sp ro : Nat) (v r : Nat) (hFb : ∀ i, F i < 65536) (hv : v < 8) (hr : r < 16) (h1 : 1 ≤ a2 v) (h2 : a2 v ≤ 20) : Ct l yX10_goes wsX10_goes (rmD (1)) D [(cI, .int), (cC, .char), (cJ, .long), (cG, .object "PushdownGameSolver$Game")] [.ref ((h 0)), .int (nI v), .int (nI r)] [((h 0), .inr (6, [.ref ((h 1)), .ref ((h 2)), .ref ((h 3)), .int (nI km), .ref ((h 4)), .int (nI le), .int (nI sp), .ref ((h 5)), .ref ((h 6)), .int (nI ro), .ref ((h 7)), .ref ((h 8)), .ref ((h 9)), .ref ((h 10)), .ref ((h 11)), .ref ((h 12)), .ref ((h 13))])), ((h 1), .inl (cI, 99, .inl (sA F))), ((h 2), .inl (cI, 99, .inl fr)), ((h 3), .inl (cI, 594, .inl (kA Q))), ((h 4), .inl (cI, 200, .inl (fun zz => nI (ft zz)))), ((h 5), .inl (cI, 12, .inl (fun zz => nI (B zz)))), ((h 6), .inl (cI, 12, .inl (fun zz => nI (Bt zz)))), ((h 7), .inl (cJ, 16, .inr (.inl W))), ((h 8), .inl (cJ, 16, .inr (.inl M))), ((h 9), .inl (cI, 9, .inl (fun zz => nI (a1 zz)))), ((h 10), .inl (cI, 9, .inl (fun zz => nI (a2 zz)))), ((h 11), .inl (cI, 198, .inl (fun zz => nI (a3 zz)))), ((h 12), .inl (cI, 9, .inl (fun zz => nI (a4 zz)))), ((h 13), .inl (cI, 9, .inl (fA a5)))] (S := Unit) (fun _ => True) (fun _ => none) (fun _ => [((h 0), .inr (6, [.ref ((h 1)), .ref ((h 2)), .ref ((h 3)), .int (nI km), .ref ((h 4)), .int (nI le), .int (nI sp), .ref ((h 5)), .ref ((h 6)), .int (nI ro), .ref ((h 7)), .ref ((h 8)), .ref ((h 9)), .ref ((h 10)), .ref ((h 11)), .ref ((h 12)), .ref ((h 13))])), ((h 1), .inl (cI, 99, .inl (sA F))), ((h 2), .inl (cI, 99, .inl fr)), ((h 3), .inl (cI, 594, .inl (kA Q))), ((h 4), .inl (cI, 200, .inl (fun zz => nI (ft zz)))), ((h 5), .inl (cI, 12, .inl (fun zz => nI (B zz)))), ((h 6), .inl (cI, 12, .inl (fun zz => nI (Bt zz)))), ((h 7), .inl (cJ, 16, .inr (.inl W))), ((h 8), .inl (cJ, 16, .inr (.inl M))), ((h 9), .inl (cI, 9, .inl (fun zz => nI ((updN a1 (v + 1) (F (5 + 5 * r + 2))) zz)))), ((h 10), .inl (cI, 9, .inl (fun zz => nI ((updN a2 (v + 1) (goH F a2 v r)) zz)))), ((h 11), .inl (cI, 198, .inl (fun zz => nI ((goP F a2 a3 v r) zz)))), ((h 12), .inl (cI, 9, .inl (fun zz => nI ((updN a4 (v + 1) 0) zz)))), ((h 13), .inl (cI, 9, .inl (fA (updN a5 (v + 1) 0))))]) := by
  refine Ct.of (lv := [(0, .ref ((h 0))), (1, .int (nI v)), (2, .int (nI r))]) (by decide) rfl (Nat.le_of_ble_eq_true rfl) rfl ?_
  intro ε hL EE FF
  have Lp_12 : ∀ (nf : Nat), ∀ (k : Nat), 22 - k < nf → (k ≤ a2 v - 1) → J l (rmD (1)) D ε [((h 0), .inr (6, [.ref ((h 1)), .ref ((h 2)), .ref ((h 3)), .int (nI km), .ref ((h 4)), .int (nI le), .int (nI sp), .ref ((h 5)), .ref ((h 6)), .int (nI ro), .ref ((h 7)), .ref ((h 8)), .ref ((h 9)), .ref ((h 10)), .ref ((h 11)), .ref ((h 12)), .ref ((h 13))])), ((h 1), .inl (cI, 99, .inl (sA F))), ((h 2), .inl (cI, 99, .inl fr)), ((h 3), .inl (cI, 594, .inl (kA Q))), ((h 4), .inl (cI, 200, .inl (fun zz => nI (ft zz)))), ((h 5), .inl (cI, 12, .inl (fun zz => nI (B zz)))), ((h 6), .inl (cI, 12, .inl (fun zz => nI (Bt zz)))), ((h 7), .inl (cJ, 16, .inr (.inl W))), ((h 8), .inl (cJ, 16, .inr (.inl M))), ((h 9), .inl (cI, 9, .inl (fun zz => nI (a1 zz)))), ((h 10), .inl (cI, 9, .inl (fun zz => nI (a2 zz)))), ((h 11), .inl (cI, 198, .inl (fun zz => nI ((cpP a3 v k) zz)))), ((h 12), .inl (cI, 9, .inl (fun zz => nI (a4 zz)))), ((h 13), .inl (cI, 9, .inl (fA a5)))] 12 [(4, .int (nI k)), (3, .int (nI (a2 v - 1))), (0, .ref ((h 0))), (1, .int (nI v)), (2, .int (nI r))] [] := by
    intro nf
    induction nf with
    | zero => intro k hm; exact absurd hm (Nat.not_lt_zero _)
    | succ nf ihp_12 =>
      intro k hm12 hk
      refine j_iload EE 0 dX10_goes_12 rfl ?_
      refine j_iload_n EE 1 dX10_goes_14 rfl rfl ?_
      refine j_icmp_ge EE 50 dX10_goes_15 (by decide) (fun c15 => ?_) (fun c15 => ?_)
      · skip
        have n15 : (a2 v - 1) ≤ k := (nI_leI (a := (a2 v - 1)) (b := k) (by omega) (by omega)).mp c15
        have hka : k = a2 v - 1 := by omega
        refine j_iconst (v := nI 4) EE dX10_goes_50 (by decide) ?_
        refine j_istore EE [(4, _), (3, _), (0, _), (1, _), (2, _)] dX10_goes_51 (Nat.lt_of_lt_of_eq (by decide) hL.symm) rfl ?_
        refine j_iload EE 0 dX10_goes_53 rfl ?_
        refine j_iconst (v := nI 2) EE dX10_goes_55 (by decide) ?_
        refine j_icmp_le EE 99 dX10_goes_56 (by decide) (fun c56 => absurd c56 (by decide)) (fun c56 => ?_)
        have n56 : ¬ 4 ≤ 2 := fun hq => c56 ((nI_leI (a := 4) (b := 2) (by omega) (by omega)).mpr hq)
        refine j_aload_n EE 2 dX10_goes_59 rfl rfl ?_
        refine j_iload_n EE 4 dX10_goes_60 rfl rfl ?_
        refine j_iload EE 0 dX10_goes_61 rfl ?_
        refine j_V2 (n9 := 14) EE (c_X10_ofRuleW h F Q ft B Bt a1 a2 (cpP a3 v k) a4 a5 fr W M km le sp ro r 4 (by omega) (by omega) (by omega)) gX10_goes_X10_ofRule ⟨rfl, hd_X10_ofRule⟩ rfl ⟨rfl, rfl⟩ ⟨by decide, by decide⟩ rfl [0, 1, 2, 3, 4, 5, 6, 7, 8, 9, 10, 11, 12, 13] rfl [] [((h 0), .inr (6, [.ref ((h 1)), .ref ((h 2)), .ref ((h 3)), .int (nI km), .ref ((h 4)), .int (nI le), .int (nI sp), .ref ((h 5)), .ref ((h 6)), .int (nI ro), .ref ((h 7)), .ref ((h 8)), .ref ((h 9)), .ref ((h 10)), .ref ((h 11)), .ref ((h 12)), .ref ((h 13))])), ((h 1), .inl (cI, 99, .inl (sA F))), ((h 2), .inl (cI, 99, .inl fr)), ((h 3), .inl (cI, 594, .inl (kA Q))), ((h 4), .inl (cI, 200, .inl (fun zz => nI (ft zz)))), ((h 5), .inl (cI, 12, .inl (fun zz => nI (B zz)))), ((h 6), .inl (cI, 12, .inl (fun zz => nI (Bt zz)))), ((h 7), .inl (cJ, 16, .inr (.inl W))), ((h 8), .inl (cJ, 16, .inr (.inl M))), ((h 9), .inl (cI, 9, .inl (fun zz => nI (a1 zz)))), ((h 10), .inl (cI, 9, .inl (fun zz => nI (a2 zz)))), ((h 11), .inl (cI, 198, .inl (fun zz => nI ((cpP a3 v k) zz)))), ((h 12), .inl (cI, 9, .inl (fun zz => nI (a4 zz)))), ((h 13), .inl (cI, 9, .inl (fA a5)))] (fun _ => rfl) [] [(h 0), (h 1), (h 2), (h 3), (h 4), (h 5), (h 6), (h 7), (h 8), (h 9), (h 10), (h 11), (h 12), (h 13)] rfl rfl rfl rfl rfl (by decide) (by decide) 0 rfl rfl rfl (Nat.le_of_ble_eq_true rfl) dX10_goes_63 (fun u_63 h_63 => ?_) rfl
        show J l _ D ε _ _ _ (.int (nI (F (5 + 5 * r + 4)) - nI 1) :: _)
        refine j_iconst (v := (-1)) EE dX10_goes_66 (by decide) ?_
        refine j_icmp_eq EE 93 dX10_goes_67 (by decide) (fun c67 => ?_) (fun c67 => ?_)
        · skip
          have m67 := (b_m1w (hFb _)).mp c67
          refine j_iinc (v := nI 3) EE 0 [(4, .int (nI 3)), (3, _), (0, _), (1, _), (2, _)] dX10_goes_93 rfl (by decide) (Nat.lt_of_lt_of_eq (by decide) hL.symm) rfl ?_
          refine j_goto EE 53 dX10_goes_96 (by decide) ?_
          refine j_iload EE 0 dX10_goes_53 rfl ?_
          refine j_iconst (v := nI 2) EE dX10_goes_55 (by decide) ?_
          refine j_icmp_le EE 99 dX10_goes_56 (by decide) (fun c56 => absurd c56 (by decide)) (fun c56 => ?_)
          have n56 : ¬ 3 ≤ 2 := fun hq => c56 ((nI_leI (a := 3) (b := 2) (by omega) (by omega)).mpr hq)
          refine j_aload_n EE 2 dX10_goes_59 rfl rfl ?_
          refine j_iload_n EE 4 dX10_goes_60 rfl rfl ?_
          refine j_iload EE 0 dX10_goes_61 rfl ?_
          refine j_V2 (n9 := 14) EE (c_X10_ofRuleW h F Q ft B Bt a1 a2 (cpP a3 v k) a4 a5 fr W M km le sp ro r 3 (by omega) (by omega) (by omega)) gX10_goes_X10_ofRule ⟨rfl, hd_X10_ofRule⟩ rfl ⟨rfl, rfl⟩ ⟨by decide, by decide⟩ rfl [0, 1, 2, 3, 4, 5, 6, 7, 8, 9, 10, 11, 12, 13] rfl [] [((h 0), .inr (6, [.ref ((h 1)), .ref ((h 2)), .ref ((h 3)), .int (nI km), .ref ((h 4)), .int (nI le), .int (nI sp), .ref ((h 5)), .ref ((h 6)), .int (nI ro), .ref ((h 7)), .ref ((h 8)), .ref ((h 9)), .ref ((h 10)), .ref ((h 11)), .ref ((h 12)), .ref ((h 13))])), ((h 1), .inl (cI, 99, .inl (sA F))), ((h 2), .inl (cI, 99, .inl fr)), ((h 3), .inl (cI, 594, .inl (kA Q))), ((h 4), .inl (cI, 200, .inl (fun zz => nI (ft zz)))), ((h 5), .inl (cI, 12, .inl (fun zz => nI (B zz)))), ((h 6), .inl (cI, 12, .inl (fun zz => nI (Bt zz)))), ((h 7), .inl (cJ, 16, .inr (.inl W))), ((h 8), .inl (cJ, 16, .inr (.inl M))), ((h 9), .inl (cI, 9, .inl (fun zz => nI (a1 zz)))), ((h 10), .inl (cI, 9, .inl (fun zz => nI (a2 zz)))), ((h 11), .inl (cI, 198, .inl (fun zz => nI ((cpP a3 v k) zz)))), ((h 12), .inl (cI, 9, .inl (fun zz => nI (a4 zz)))), ((h 13), .inl (cI, 9, .inl (fA a5)))] (fun _ => rfl) [] [(h 0), (h 1), (h 2), (h 3), (h 4), (h 5), (h 6), (h 7), (h 8), (h 9), (h 10), (h 11), (h 12), (h 13)] rfl rfl rfl rfl rfl (by decide) (by decide) 0 rfl rfl rfl (Nat.le_of_ble_eq_true rfl) dX10_goes_63 (fun u_63 h_63 => ?_) rfl
          show J l _ D ε _ _ _ (.int (nI (F (5 + 5 * r + 3)) - nI 1) :: _)
          refine j_iconst (v := (-1)) EE dX10_goes_66 (by decide) ?_
          refine j_icmp_eq EE 93 dX10_goes_67 (by decide) (fun c67 => ?_) (fun c67 => ?_)
          · skip
            have m67 := (b_m1w (hFb _)).mp c67
            refine j_iinc (v := nI 2) EE 0 [(4, .int (nI 2)), (3, _), (0, _), (1, _), (2, _)] dX10_goes_93 rfl (by decide) (Nat.lt_of_lt_of_eq (by decide) hL.symm) rfl ?_
            refine j_goto EE 53 dX10_goes_96 (by decide) ?_
            refine j_iload EE 0 dX10_goes_53 rfl ?_
            refine j_iconst (v := nI 2) EE dX10_goes_55 (by decide) ?_
            refine j_icmp_le EE 99 dX10_goes_56 (by decide) (fun c56 => ?_) (fun c56 => absurd (by decide) c56)
            have n56 : 2 ≤ 2 := (nI_leI (a := 2) (b := 2) (by omega) (by omega)).mp c56
            refine j_aload_n EE 2 dX10_goes_99 rfl rfl ?_
            refine j_get (T := TX10) EE iw_X10_goes_X10 0 rfl rfl 13 (by decide) lk_X10_goes_38 rfl dX10_goes_100 ?_
            refine j_iload_n EE 3 dX10_goes_103 rfl rfl ?_
            refine j_iconst (v := nI 1) EE dX10_goes_104 (by decide) ?_
            refine j_iadd EE dX10_goes_105 ?_
            refine j_topE (nI_add v 1) ?_
            refine j_iload_n EE 1 dX10_goes_106 rfl rfl ?_
            refine j_iast (ws' := [((h 0), .inr (6, [.ref ((h 1)), .ref ((h 2)), .ref ((h 3)), .int (nI km), .ref ((h 4)), .int (nI le), .int (nI sp), .ref ((h 5)), .ref ((h 6)), .int (nI ro), .ref ((h 7)), .ref ((h 8)), .ref ((h 9)), .ref ((h 10)), .ref ((h 11)), .ref ((h 12)), .ref ((h 13))])), ((h 1), .inl (cI, 99, .inl (sA F))), ((h 2), .inl (cI, 99, .inl fr)), ((h 3), .inl (cI, 594, .inl (kA Q))), ((h 4), .inl (cI, 200, .inl (fun zz => nI (ft zz)))), ((h 5), .inl (cI, 12, .inl (fun zz => nI (B zz)))), ((h 6), .inl (cI, 12, .inl (fun zz => nI (Bt zz)))), ((h 7), .inl (cJ, 16, .inr (.inl W))), ((h 8), .inl (cJ, 16, .inr (.inl M))), ((h 9), .inl (cI, 9, .inl (fun zz => nI (a1 zz)))), ((h 10), .inl (cI, 9, .inl (fun zz => nI ((updN a2 (v + 1) (a2 v - 1)) zz)))), ((h 11), .inl (cI, 198, .inl (fun zz => nI ((cpP a3 v k) zz)))), ((h 12), .inl (cI, 9, .inl (fun zz => nI (a4 zz)))), ((h 13), .inl (cI, 9, .inl (fA a5)))]) EE 10 0 rfl rfl (vp_in_nI (n := v + 1) (by omega) (by decide)) (by rw [nI_clamp (by omega), upd_N]; rfl) dX10_goes_107 ?_
            refine j_aload_n EE 2 dX10_goes_108 rfl rfl ?_
            refine j_get (T := TX10) EE iw_X10_goes_X10 0 rfl rfl 12 (by decide) lk_X10_goes_35 rfl dX10_goes_109 ?_
            refine j_iload_n EE 3 dX10_goes_112 rfl rfl ?_
            refine j_iconst (v := nI 1) EE dX10_goes_113 (by decide) ?_
            refine j_iadd EE dX10_goes_114 ?_
            refine j_topE (nI_add v 1) ?_
            refine j_aload_n EE 2 dX10_goes_115 rfl rfl ?_
            refine j_iload_n EE 4 dX10_goes_116 rfl rfl ?_
            refine j_iconst (v := nI 2) EE dX10_goes_117 (by decide) ?_
            refine j_V2 (n9 := 14) EE (c_X10_ofRule h F Q ft B Bt a1 (updN a2 (v + 1) (a2 v - 1)) (cpP a3 v k) a4 a5 fr W M km le sp ro r 2 (by omega) (by omega)) gX10_goes_X10_ofRule ⟨rfl, hd_X10_ofRule⟩ rfl ⟨rfl, rfl⟩ ⟨by decide, by decide⟩ rfl [0, 1, 2, 3, 4, 5, 6, 7, 8, 9, 10, 11, 12, 13] rfl [] [((h 0), .inr (6, [.ref ((h 1)), .ref ((h 2)), .ref ((h 3)), .int (nI km), .ref ((h 4)), .int (nI le), .int (nI sp), .ref ((h 5)), .ref ((h 6)), .int (nI ro), .ref ((h 7)), .ref ((h 8)), .ref ((h 9)), .ref ((h 10)), .ref ((h 11)), .ref ((h 12)), .ref ((h 13))])), ((h 1), .inl (cI, 99, .inl (sA F))), ((h 2), .inl (cI, 99, .inl fr)), ((h 3), .inl (cI, 594, .inl (kA Q))), ((h 4), .inl (cI, 200, .inl (fun zz => nI (ft zz)))), ((h 5), .inl (cI, 12, .inl (fun zz => nI (B zz)))), ((h 6), .inl (cI, 12, .inl (fun zz => nI (Bt zz)))), ((h 7), .inl (cJ, 16, .inr (.inl W))), ((h 8), .inl (cJ, 16, .inr (.inl M))), ((h 9), .inl (cI, 9, .inl (fun zz => nI (a1 zz)))), ((h 10), .inl (cI, 9, .inl (fun zz => nI ((updN a2 (v + 1) (a2 v - 1)) zz)))), ((h 11), .inl (cI, 198, .inl (fun zz => nI ((cpP a3 v k) zz)))), ((h 12), .inl (cI, 9, .inl (fun zz => nI (a4 zz)))), ((h 13), .inl (cI, 9, .inl (fA a5)))] (fun _ => rfl) [] [(h 0), (h 1), (h 2), (h 3), (h 4), (h 5), (h 6), (h 7), (h 8), (h 9), (h 10), (h 11), (h 12), (h 13)] rfl rfl rfl rfl rfl (by decide) (by decide) 0 rfl rfl rfl (Nat.le_of_ble_eq_true rfl) dX10_goes_118 (fun u_118 h_118 => ?_) rfl
            show J l _ D ε _ _ _ (.int (nI (F (5 + 5 * r + 2))) :: _)
            refine j_iast (ws' := [((h 0), .inr (6, [.ref ((h 1)), .ref ((h 2)), .ref ((h 3)), .int (nI km), .ref ((h 4)), .int (nI le), .int (nI sp), .ref ((h 5)), .ref ((h 6)), .int (nI ro), .ref ((h 7)), .ref ((h 8)), .ref ((h 9)), .ref ((h 10)), .ref ((h 11)), .ref ((h 12)), .ref ((h 13))])), ((h 1), .inl (cI, 99, .inl (sA F))), ((h 2), .inl (cI, 99, .inl fr)), ((h 3), .inl (cI, 594, .inl (kA Q))), ((h 4), .inl (cI, 200, .inl (fun zz => nI (ft zz)))), ((h 5), .inl (cI, 12, .inl (fun zz => nI (B zz)))), ((h 6), .inl (cI, 12, .inl (fun zz => nI (Bt zz)))), ((h 7), .inl (cJ, 16, .inr (.inl W))), ((h 8), .inl (cJ, 16, .inr (.inl M))), ((h 9), .inl (cI, 9, .inl (fun zz => nI ((updN a1 (v + 1) (F (5 + 5 * r + 2))) zz)))), ((h 10), .inl (cI, 9, .inl (fun zz => nI ((updN a2 (v + 1) (a2 v - 1)) zz)))), ((h 11), .inl (cI, 198, .inl (fun zz => nI ((cpP a3 v k) zz)))), ((h 12), .inl (cI, 9, .inl (fun zz => nI (a4 zz)))), ((h 13), .inl (cI, 9, .inl (fA a5)))]) EE 9 0 rfl rfl (vp_in_nI (n := v + 1) (by omega) (by decide)) (by rw [nI_clamp (by omega), upd_N]; rfl) dX10_goes_121 ?_
            refine j_aload_n EE 2 dX10_goes_122 rfl rfl ?_
            refine j_iload_n EE 3 dX10_goes_123 rfl rfl ?_
            refine j_iconst (v := nI 1) EE dX10_goes_124 (by decide) ?_
            refine j_iadd EE dX10_goes_125 ?_
            refine j_topE (nI_add v 1) ?_
            refine j_V2 (n9 := 14) EE (c_X10_begins h F Q ft B Bt (updN a1 (v + 1) (F (5 + 5 * r + 2))) (updN a2 (v + 1) (a2 v - 1)) (cpP a3 v k) a4 a5 fr W M km le sp ro (v + 1) (by omega)) gX10_goes_X10_begins ⟨rfl, hd_X10_begins⟩ rfl ⟨rfl, rfl⟩ ⟨by decide, by decide⟩ rfl [0, 1, 2, 3, 4, 5, 6, 7, 8, 9, 10, 11, 12, 13] rfl [] [((h 0), .inr (6, [.ref ((h 1)), .ref ((h 2)), .ref ((h 3)), .int (nI km), .ref ((h 4)), .int (nI le), .int (nI sp), .ref ((h 5)), .ref ((h 6)), .int (nI ro), .ref ((h 7)), .ref ((h 8)), .ref ((h 9)), .ref ((h 10)), .ref ((h 11)), .ref ((h 12)), .ref ((h 13))])), ((h 1), .inl (cI, 99, .inl (sA F))), ((h 2), .inl (cI, 99, .inl fr)), ((h 3), .inl (cI, 594, .inl (kA Q))), ((h 4), .inl (cI, 200, .inl (fun zz => nI (ft zz)))), ((h 5), .inl (cI, 12, .inl (fun zz => nI (B zz)))), ((h 6), .inl (cI, 12, .inl (fun zz => nI (Bt zz)))), ((h 7), .inl (cJ, 16, .inr (.inl W))), ((h 8), .inl (cJ, 16, .inr (.inl M))), ((h 9), .inl (cI, 9, .inl (fun zz => nI ((updN a1 (v + 1) (F (5 + 5 * r + 2))) zz)))), ((h 10), .inl (cI, 9, .inl (fun zz => nI ((updN a2 (v + 1) (a2 v - 1)) zz)))), ((h 11), .inl (cI, 198, .inl (fun zz => nI ((cpP a3 v k) zz)))), ((h 12), .inl (cI, 9, .inl (fun zz => nI ((updN a4 (v + 1) 0) zz)))), ((h 13), .inl (cI, 9, .inl (fA (updN a5 (v + 1) 0))))] (fun _ => rfl) [] [(h 0), (h 1), (h 2), (h 3), (h 4), (h 5), (h 6), (h 7), (h 8), (h 9), (h 10), (h 11), (h 12), (h 13)] rfl rfl rfl rfl rfl (by decide) (by decide) 0 rfl rfl rfl (Nat.le_of_ble_eq_true rfl) dX10_goes_126 (fun u_126 h_126 => ?_) rfl
            exact j_vret EE FF dX10_goes_129 () trivial rfl (by unfold goP goH; simp only [*, if_true, if_false, Nat.add_zero])
          · skip
            first | have m67 : ¬ F (5 + 5 * r + 4) = 0 := fun hq => c67 ((b_m1w (hFb _)).mpr hq) | have m67 : ¬ F (5 + 5 * r + 3) = 0 := fun hq => c67 ((b_m1w (hFb _)).mpr hq)
            refine j_aload_n EE 2 dX10_goes_70 rfl rfl ?_
            refine j_get (T := TX10) EE iw_X10_goes_X10 0 rfl rfl 14 (by decide) lk_X10_goes_41 rfl dX10_goes_71 ?_
            refine j_bipush (v := nI 22) EE dX10_goes_74 (by decide) ?_
            refine j_iload_n EE 3 dX10_goes_76 rfl rfl ?_
            refine j_iconst (v := nI 1) EE dX10_goes_77 (by decide) ?_
            refine j_iadd EE dX10_goes_78 ?_
            refine j_topE (nI_add v 1) ?_
            refine j_imul EE dX10_goes_79 ?_
            refine j_topE (pk_mul 22 (v + 1)) ?_
            refine j_iload_n EE 1 dX10_goes_80 rfl rfl ?_
            refine j_iadd EE dX10_goes_81 ?_
            refine j_topE (nI_add (22 * (v + 1)) (a2 v - 1)) ?_
            refine j_aload_n EE 2 dX10_goes_82 rfl rfl ?_
            refine j_iload_n EE 4 dX10_goes_83 rfl rfl ?_
            refine j_iload EE 0 dX10_goes_84 rfl ?_
            refine j_V2 (n9 := 14) EE (c_X10_ofRuleW h F Q ft B Bt a1 a2 (cpP a3 v k) a4 a5 fr W M km le sp ro r 3 (by omega) (by omega) (by omega)) gX10_goes_X10_ofRule ⟨rfl, hd_X10_ofRule⟩ rfl ⟨rfl, rfl⟩ ⟨by decide, by decide⟩ rfl [0, 1, 2, 3, 4, 5, 6, 7, 8, 9, 10, 11, 12, 13] rfl [] [((h 0), .inr (6, [.ref ((h 1)), .ref ((h 2)), .ref ((h 3)), .int (nI km), .ref ((h 4)), .int (nI le), .int (nI sp), .ref ((h 5)), .ref ((h 6)), .int (nI ro), .ref ((h 7)), .ref ((h 8)), .ref ((h 9)), .ref ((h 10)), .ref ((h 11)), .ref ((h 12)), .ref ((h 13))])), ((h 1), .inl (cI, 99, .inl (sA F))), ((h 2), .inl (cI, 99, .inl fr)), ((h 3), .inl (cI, 594, .inl (kA Q))), ((h 4), .inl (cI, 200, .inl (fun zz => nI (ft zz)))), ((h 5), .inl (cI, 12, .inl (fun zz => nI (B zz)))), ((h 6), .inl (cI, 12, .inl (fun zz => nI (Bt zz)))), ((h 7), .inl (cJ, 16, .inr (.inl W))), ((h 8), .inl (cJ, 16, .inr (.inl M))), ((h 9), .inl (cI, 9, .inl (fun zz => nI (a1 zz)))), ((h 10), .inl (cI, 9, .inl (fun zz => nI (a2 zz)))), ((h 11), .inl (cI, 198, .inl (fun zz => nI ((cpP a3 v k) zz)))), ((h 12), .inl (cI, 9, .inl (fun zz => nI (a4 zz)))), ((h 13), .inl (cI, 9, .inl (fA a5)))] (fun _ => rfl) [] [(h 0), (h 1), (h 2), (h 3), (h 4), (h 5), (h 6), (h 7), (h 8), (h 9), (h 10), (h 11), (h 12), (h 13)] rfl rfl rfl rfl rfl (by decide) (by decide) 0 rfl rfl rfl (Nat.le_of_ble_eq_true rfl) dX10_goes_86 (fun u_86 h_86 => ?_) rfl
            show J l _ D ε _ _ _ (.int (nI (F (5 + 5 * r + 3)) - nI 1) :: _)
            refine j_topE (y := nI (F (5 + 5 * r + 3) - 1)) (pk_sub (by omega)) ?_
            show J l _ D ε _ _ _ (.int (nI (F (5 + 5 * r + 3) - 1)) :: _)
            refine j_iast (ws' := [((h 0), .inr (6, [.ref ((h 1)), .ref ((h 2)), .ref ((h 3)), .int (nI km), .ref ((h 4)), .int (nI le), .int (nI sp), .ref ((h 5)), .ref ((h 6)), .int (nI ro), .ref ((h 7)), .ref ((h 8)), .ref ((h 9)), .ref ((h 10)), .ref ((h 11)), .ref ((h 12)), .ref ((h 13))])), ((h 1), .inl (cI, 99, .inl (sA F))), ((h 2), .inl (cI, 99, .inl fr)), ((h 3), .inl (cI, 594, .inl (kA Q))), ((h 4), .inl (cI, 200, .inl (fun zz => nI (ft zz)))), ((h 5), .inl (cI, 12, .inl (fun zz => nI (B zz)))), ((h 6), .inl (cI, 12, .inl (fun zz => nI (Bt zz)))), ((h 7), .inl (cJ, 16, .inr (.inl W))), ((h 8), .inl (cJ, 16, .inr (.inl M))), ((h 9), .inl (cI, 9, .inl (fun zz => nI (a1 zz)))), ((h 10), .inl (cI, 9, .inl (fun zz => nI (a2 zz)))), ((h 11), .inl (cI, 198, .inl (fun zz => nI ((updN (cpP a3 v k) ((22 * (v + 1)) + (a2 v - 1)) (F (5 + 5 * r + 3) - 1)) zz)))), ((h 12), .inl (cI, 9, .inl (fun zz => nI (a4 zz)))), ((h 13), .inl (cI, 9, .inl (fA a5)))]) EE 11 0 rfl rfl (vp_in_nI (n := (22 * (v + 1)) + (a2 v - 1)) (by omega) (by decide)) (by rw [nI_clamp (by omega), upd_N]; rfl) dX10_goes_89 ?_
            refine j_iinc (v := nI ((a2 v - 1) + 1)) EE 1 [(3, .int (nI ((a2 v - 1) + 1))), (4, _), (0, _), (1, _), (2, _)] dX10_goes_90 rfl (nI_1 (a2 v - 1)) (Nat.lt_of_lt_of_eq (by decide) hL.symm) rfl ?_
            refine j_iinc (v := nI 2) EE 1 [(4, .int (nI 2)), (3, _), (0, _), (1, _), (2, _)] dX10_goes_93 rfl (by decide) (Nat.lt_of_lt_of_eq (by decide) hL.symm) rfl ?_
            refine j_goto EE 53 dX10_goes_96 (by decide) ?_
            refine j_iload EE 0 dX10_goes_53 rfl ?_
            refine j_iconst (v := nI 2) EE dX10_goes_55 (by decide) ?_
            refine j_icmp_le EE 99 dX10_goes_56 (by decide) (fun c56 => ?_) (fun c56 => absurd (by decide) c56)
            have n56 : 2 ≤ 2 := (nI_leI (a := 2) (b := 2) (by omega) (by omega)).mp c56
            refine j_aload_n EE 2 dX10_goes_99 rfl rfl ?_
            refine j_get (T := TX10) EE iw_X10_goes_X10 0 rfl rfl 13 (by decide) lk_X10_goes_38 rfl dX10_goes_100 ?_
            refine j_iload_n EE 3 dX10_goes_103 rfl rfl ?_
            refine j_iconst (v := nI 1) EE dX10_goes_104 (by decide) ?_
            refine j_iadd EE dX10_goes_105 ?_
            refine j_topE (nI_add v 1) ?_
            refine j_iload_n EE 1 dX10_goes_106 rfl rfl ?_
            refine j_iast (ws' := [((h 0), .inr (6, [.ref ((h 1)), .ref ((h 2)), .ref ((h 3)), .int (nI km), .ref ((h 4)), .int (nI le), .int (nI sp), .ref ((h 5)), .ref ((h 6)), .int (nI ro), .ref ((h 7)), .ref ((h 8)), .ref ((h 9)), .ref ((h 10)), .ref ((h 11)), .ref ((h 12)), .ref ((h 13))])), ((h 1), .inl (cI, 99, .inl (sA F))), ((h 2), .inl (cI, 99, .inl fr)), ((h 3), .inl (cI, 594, .inl (kA Q))), ((h 4), .inl (cI, 200, .inl (fun zz => nI (ft zz)))), ((h 5), .inl (cI, 12, .inl (fun zz => nI (B zz)))), ((h 6), .inl (cI, 12, .inl (fun zz => nI (Bt zz)))), ((h 7), .inl (cJ, 16, .inr (.inl W))), ((h 8), .inl (cJ, 16, .inr (.inl M))), ((h 9), .inl (cI, 9, .inl (fun zz => nI (a1 zz)))), ((h 10), .inl (cI, 9, .inl (fun zz => nI ((updN a2 (v + 1) ((a2 v - 1) + 1)) zz)))), ((h 11), .inl (cI, 198, .inl (fun zz => nI ((updN (cpP a3 v k) ((22 * (v + 1)) + (a2 v - 1)) (F (5 + 5 * r + 3) - 1)) zz)))), ((h 12), .inl (cI, 9, .inl (fun zz => nI (a4 zz)))), ((h 13), .inl (cI, 9, .inl (fA a5)))]) EE 10 0 rfl rfl (vp_in_nI (n := v + 1) (by omega) (by decide)) (by rw [nI_clamp (by omega), upd_N]; rfl) dX10_goes_107 ?_
            refine j_aload_n EE 2 dX10_goes_108 rfl rfl ?_
            refine j_get (T := TX10) EE iw_X10_goes_X10 0 rfl rfl 12 (by decide) lk_X10_goes_35 rfl dX10_goes_109 ?_
            refine j_iload_n EE 3 dX10_goes_112 rfl rfl ?_
            refine j_iconst (v := nI 1) EE dX10_goes_113 (by decide) ?_
            refine j_iadd EE dX10_goes_114 ?_
            refine j_topE (nI_add v 1) ?_
            refine j_aload_n EE 2 dX10_goes_115 rfl rfl ?_
            refine j_iload_n EE 4 dX10_goes_116 rfl rfl ?_
            refine j_iconst (v := nI 2) EE dX10_goes_117 (by decide) ?_
            refine j_V2 (n9 := 14) EE (c_X10_ofRule h F Q ft B Bt a1 (updN a2 (v + 1) ((a2 v - 1) + 1)) (updN (cpP a3 v k) ((22 * (v + 1)) + (a2 v - 1)) (F (5 + 5 * r + 3) - 1)) a4 a5 fr W M km le sp ro r 2 (by omega) (by omega)) gX10_goes_X10_ofRule ⟨rfl, hd_X10_ofRule⟩ rfl ⟨rfl, rfl⟩ ⟨by decide, by decide⟩ rfl [0, 1, 2, 3, 4, 5, 6, 7, 8, 9, 10, 11, 12, 13] rfl [] [((h 0), .inr (6, [.ref ((h 1)), .ref ((h 2)), .ref ((h 3)), .int (nI km), .ref ((h 4)), .int (nI le), .int (nI sp), .ref ((h 5)), .ref ((h 6)), .int (nI ro), .ref ((h 7)), .ref ((h 8)), .ref ((h 9)), .ref ((h 10)), .ref ((h 11)), .ref ((h 12)), .ref ((h 13))])), ((h 1), .inl (cI, 99, .inl (sA F))), ((h 2), .inl (cI, 99, .inl fr)), ((h 3), .inl (cI, 594, .inl (kA Q))), ((h 4), .inl (cI, 200, .inl (fun zz => nI (ft zz)))), ((h 5), .inl (cI, 12, .inl (fun zz => nI (B zz)))), ((h 6), .inl (cI, 12, .inl (fun zz => nI (Bt zz)))), ((h 7), .inl (cJ, 16, .inr (.inl W))), ((h 8), .inl (cJ, 16, .inr (.inl M))), ((h 9), .inl (cI, 9, .inl (fun zz => nI (a1 zz)))), ((h 10), .inl (cI, 9, .inl (fun zz => nI ((updN a2 (v + 1) ((a2 v - 1) + 1)) zz)))), ((h 11), .inl (cI, 198, .inl (fun zz => nI ((updN (cpP a3 v k) ((22 * (v + 1)) + (a2 v - 1)) (F (5 + 5 * r + 3) - 1)) zz)))), ((h 12), .inl (cI, 9, .inl (fun zz => nI (a4 zz)))), ((h 13), .inl (cI, 9, .inl (fA a5)))] (fun _ => rfl) [] [(h 0), (h 1), (h 2), (h 3), (h 4), (h 5), (h 6), (h 7), (h 8), (h 9), (h 10), (h 11), (h 12), (h 13)] rfl rfl rfl rfl rfl (by decide) (by decide) 0 rfl rfl rfl (Nat.le_of_ble_eq_true rfl) dX10_goes_118 (fun u_118 h_118 => ?_) rfl
            show J l _ D ε _ _ _ (.int (nI (F (5 + 5 * r + 2))) :: _)
            refine j_iast (ws' := [((h 0), .inr (6, [.ref ((h 1)), .ref ((h 2)), .ref ((h 3)), .int (nI km), .ref ((h 4)), .int (nI le), .int (nI sp), .ref ((h 5)), .ref ((h 6)), .int (nI ro), .ref ((h 7)), .ref ((h 8)), .ref ((h 9)), .ref ((h 10)), .ref ((h 11)), .ref ((h 12)), .ref ((h 13))])), ((h 1), .inl (cI, 99, .inl (sA F))), ((h 2), .inl (cI, 99, .inl fr)), ((h 3), .inl (cI, 594, .inl (kA Q))), ((h 4), .inl (cI, 200, .inl (fun zz => nI (ft zz)))), ((h 5), .inl (cI, 12, .inl (fun zz => nI (B zz)))), ((h 6), .inl (cI, 12, .inl (fun zz => nI (Bt zz)))), ((h 7), .inl (cJ, 16, .inr (.inl W))), ((h 8), .inl (cJ, 16, .inr (.inl M))), ((h 9), .inl (cI, 9, .inl (fun zz => nI ((updN a1 (v + 1) (F (5 + 5 * r + 2))) zz)))), ((h 10), .inl (cI, 9, .inl (fun zz => nI ((updN a2 (v + 1) ((a2 v - 1) + 1)) zz)))), ((h 11), .inl (cI, 198, .inl (fun zz => nI ((updN (cpP a3 v k) ((22 * (v + 1)) + (a2 v - 1)) (F (5 + 5 * r + 3) - 1)) zz)))), ((h 12), .inl (cI, 9, .inl (fun zz => nI (a4 zz)))), ((h 13), .inl (cI, 9, .inl (fA a5)))]) EE 9 0 rfl rfl (vp_in_nI (n := v + 1) (by omega) (by decide)) (by rw [nI_clamp (by omega), upd_N]; rfl) dX10_goes_121 ?_
            refine j_aload_n EE 2 dX10_goes_122 rfl rfl ?_
            refine j_iload_n EE 3 dX10_goes_123 rfl rfl ?_
            refine j_iconst (v := nI 1) EE dX10_goes_124 (by decide) ?_
            refine j_iadd EE dX10_goes_125 ?_
            refine j_topE (nI_add v 1) ?_
            refine j_V2 (n9 := 14) EE (c_X10_begins h F Q ft B Bt (updN a1 (v + 1) (F (5 + 5 * r + 2))) (updN a2 (v + 1) ((a2 v - 1) + 1)) (updN (cpP a3 v k) ((22 * (v + 1)) + (a2 v - 1)) (F (5 + 5 * r + 3) - 1)) a4 a5 fr W M km le sp ro (v + 1) (by omega)) gX10_goes_X10_begins ⟨rfl, hd_X10_begins⟩ rfl ⟨rfl, rfl⟩ ⟨by decide, by decide⟩ rfl [0, 1, 2, 3, 4, 5, 6, 7, 8, 9, 10, 11, 12, 13] rfl [] [((h 0), .inr (6, [.ref ((h 1)), .ref ((h 2)), .ref ((h 3)), .int (nI km), .ref ((h 4)), .int (nI le), .int (nI sp), .ref ((h 5)), .ref ((h 6)), .int (nI ro), .ref ((h 7)), .ref ((h 8)), .ref ((h 9)), .ref ((h 10)), .ref ((h 11)), .ref ((h 12)), .ref ((h 13))])), ((h 1), .inl (cI, 99, .inl (sA F))), ((h 2), .inl (cI, 99, .inl fr)), ((h 3), .inl (cI, 594, .inl (kA Q))), ((h 4), .inl (cI, 200, .inl (fun zz => nI (ft zz)))), ((h 5), .inl (cI, 12, .inl (fun zz => nI (B zz)))), ((h 6), .inl (cI, 12, .inl (fun zz => nI (Bt zz)))), ((h 7), .inl (cJ, 16, .inr (.inl W))), ((h 8), .inl (cJ, 16, .inr (.inl M))), ((h 9), .inl (cI, 9, .inl (fun zz => nI ((updN a1 (v + 1) (F (5 + 5 * r + 2))) zz)))), ((h 10), .inl (cI, 9, .inl (fun zz => nI ((updN a2 (v + 1) ((a2 v - 1) + 1)) zz)))), ((h 11), .inl (cI, 198, .inl (fun zz => nI ((updN (cpP a3 v k) ((22 * (v + 1)) + (a2 v - 1)) (F (5 + 5 * r + 3) - 1)) zz)))), ((h 12), .inl (cI, 9, .inl (fun zz => nI ((updN a4 (v + 1) 0) zz)))), ((h 13), .inl (cI, 9, .inl (fA (updN a5 (v + 1) 0))))] (fun _ => rfl) [] [(h 0), (h 1), (h 2), (h 3), (h 4), (h 5), (h 6), (h 7), (h 8), (h 9), (h 10), (h 11), (h 12), (h 13)] rfl rfl rfl rfl rfl (by decide) (by decide) 0 rfl rfl rfl (Nat.le_of_ble_eq_true rfl) dX10_goes_126 (fun u_126 h_126 => ?_) rfl
            exact j_vret EE FF dX10_goes_129 () trivial rfl (by unfold goP goH; simp only [*, if_true, if_false, Nat.add_zero])
        · skip
          first | have m67 : ¬ F (5 + 5 * r + 4) = 0 := fun hq => c67 ((b_m1w (hFb _)).mpr hq) | have m67 : ¬ F (5 + 5 * r + 3) = 0 := fun hq => c67 ((b_m1w (hFb _)).mpr hq)
          refine j_aload_n EE 2 dX10_goes_70 rfl rfl ?_
          refine j_get (T := TX10) EE iw_X10_goes_X10 0 rfl rfl 14 (by decide) lk_X10_goes_41 rfl dX10_goes_71 ?_
          refine j_bipush (v := nI 22) EE dX10_goes_74 (by decide) ?_
          refine j_iload_n EE 3 dX10_goes_76 rfl rfl ?_
          refine j_iconst (v := nI 1) EE dX10_goes_77 (by decide) ?_
          refine j_iadd EE dX10_goes_78 ?_
          refine j_topE (nI_add v 1) ?_
          refine j_imul EE dX10_goes_79 ?_
          refine j_topE (pk_mul 22 (v + 1)) ?_
          refine j_iload_n EE 1 dX10_goes_80 rfl rfl ?_
          refine j_iadd EE dX10_goes_81 ?_
          refine j_topE (nI_add (22 * (v + 1)) (a2 v - 1)) ?_
          refine j_aload_n EE 2 dX10_goes_82 rfl rfl ?_
          refine j_iload_n EE 4 dX10_goes_83 rfl rfl ?_
          refine j_iload EE 0 dX10_goes_84 rfl ?_
          refine j_V2 (n9 := 14) EE (c_X10_ofRuleW h F Q ft B Bt a1 a2 (cpP a3 v k) a4 a5 fr W M km le sp ro r 4 (by omega) (by omega) (by omega)) gX10_goes_X10_ofRule ⟨rfl, hd_X10_ofRule⟩ rfl ⟨rfl, rfl⟩ ⟨by decide, by decide⟩ rfl [0, 1, 2, 3, 4, 5, 6, 7, 8, 9, 10, 11, 12, 13] rfl [] [((h 0), .inr (6, [.ref ((h 1)), .ref ((h 2)), .ref ((h 3)), .int (nI km), .ref ((h 4)), .int (nI le), .int (nI sp), .ref ((h 5)), .ref ((h 6)), .int (nI ro), .ref ((h 7)), .ref ((h 8)), .ref ((h 9)), .ref ((h 10)), .ref ((h 11)), .ref ((h 12)), .ref ((h 13))])), ((h 1), .inl (cI, 99, .inl (sA F))), ((h 2), .inl (cI, 99, .inl fr)), ((h 3), .inl (cI, 594, .inl (kA Q))), ((h 4), .inl (cI, 200, .inl (fun zz => nI (ft zz)))), ((h 5), .inl (cI, 12, .inl (fun zz => nI (B zz)))), ((h 6), .inl (cI, 12, .inl (fun zz => nI (Bt zz)))), ((h 7), .inl (cJ, 16, .inr (.inl W))), ((h 8), .inl (cJ, 16, .inr (.inl M))), ((h 9), .inl (cI, 9, .inl (fun zz => nI (a1 zz)))), ((h 10), .inl (cI, 9, .inl (fun zz => nI (a2 zz)))), ((h 11), .inl (cI, 198, .inl (fun zz => nI ((cpP a3 v k) zz)))), ((h 12), .inl (cI, 9, .inl (fun zz => nI (a4 zz)))), ((h 13), .inl (cI, 9, .inl (fA a5)))] (fun _ => rfl) [] [(h 0), (h 1), (h 2), (h 3), (h 4), (h 5), (h 6), (h 7), (h 8), (h 9), (h 10), (h 11), (h 12), (h 13)] rfl rfl rfl rfl rfl (by decide) (by decide) 0 rfl rfl rfl (Nat.le_of_ble_eq_true rfl) dX10_goes_86 (fun u_86 h_86 => ?_) rfl
          show J l _ D ε _ _ _ (.int (nI (F (5 + 5 * r + 4)) - nI 1) :: _)
          refine j_topE (y := nI (F (5 + 5 * r + 4) - 1)) (pk_sub (by omega)) ?_
          show J l _ D ε _ _ _ (.int (nI (F (5 + 5 * r + 4) - 1)) :: _)
          refine j_iast (ws' := [((h 0), .inr (6, [.ref ((h 1)), .ref ((h 2)), .ref ((h 3)), .int (nI km), .ref ((h 4)), .int (nI le), .int (nI sp), .ref ((h 5)), .ref ((h 6)), .int (nI ro), .ref ((h 7)), .ref ((h 8)), .ref ((h 9)), .ref ((h 10)), .ref ((h 11)), .ref ((h 12)), .ref ((h 13))])), ((h 1), .inl (cI, 99, .inl (sA F))), ((h 2), .inl (cI, 99, .inl fr)), ((h 3), .inl (cI, 594, .inl (kA Q))), ((h 4), .inl (cI, 200, .inl (fun zz => nI (ft zz)))), ((h 5), .inl (cI, 12, .inl (fun zz => nI (B zz)))), ((h 6), .inl (cI, 12, .inl (fun zz => nI (Bt zz)))), ((h 7), .inl (cJ, 16, .inr (.inl W))), ((h 8), .inl (cJ, 16, .inr (.inl M))), ((h 9), .inl (cI, 9, .inl (fun zz => nI (a1 zz)))), ((h 10), .inl (cI, 9, .inl (fun zz => nI (a2 zz)))), ((h 11), .inl (cI, 198, .inl (fun zz => nI ((updN (cpP a3 v k) ((22 * (v + 1)) + (a2 v - 1)) (F (5 + 5 * r + 4) - 1)) zz)))), ((h 12), .inl (cI, 9, .inl (fun zz => nI (a4 zz)))), ((h 13), .inl (cI, 9, .inl (fA a5)))]) EE 11 0 rfl rfl (vp_in_nI (n := (22 * (v + 1)) + (a2 v - 1)) (by omega) (by decide)) (by rw [nI_clamp (by omega), upd_N]; rfl) dX10_goes_89 ?_
          refine j_iinc (v := nI ((a2 v - 1) + 1)) EE 1 [(3, .int (nI ((a2 v - 1) + 1))), (4, _), (0, _), (1, _), (2, _)] dX10_goes_90 rfl (nI_1 (a2 v - 1)) (Nat.lt_of_lt_of_eq (by decide) hL.symm) rfl ?_
          refine j_iinc (v := nI 3) EE 1 [(4, .int (nI 3)), (3, _), (0, _), (1, _), (2, _)] dX10_goes_93 rfl (by decide) (Nat.lt_of_lt_of_eq (by decide) hL.symm) rfl ?_
          refine j_goto EE 53 dX10_goes_96 (by decide) ?_
          refine j_iload EE 0 dX10_goes_53 rfl ?_
          refine j_iconst (v := nI 2) EE dX10_goes_55 (by decide) ?_
          refine j_icmp_le EE 99 dX10_goes_56 (by decide) (fun c56 => absurd c56 (by decide)) (fun c56 => ?_)
          have n56 : ¬ 3 ≤ 2 := fun hq => c56 ((nI_leI (a := 3) (b := 2) (by omega) (by omega)).mpr hq)
          refine j_aload_n EE 2 dX10_goes_59 rfl rfl ?_
          refine j_iload_n EE 4 dX10_goes_60 rfl rfl ?_
          refine j_iload EE 0 dX10_goes_61 rfl ?_
          refine j_V2 (n9 := 14) EE (c_X10_ofRuleW h F Q ft B Bt a1 a2 (updN (cpP a3 v k) ((22 * (v + 1)) + (a2 v - 1)) (F (5 + 5 * r + 4) - 1)) a4 a5 fr W M km le sp ro r 3 (by omega) (by omega) (by omega)) gX10_goes_X10_ofRule ⟨rfl, hd_X10_ofRule⟩ rfl ⟨rfl, rfl⟩ ⟨by decide, by decide⟩ rfl [0, 1, 2, 3, 4, 5, 6, 7, 8, 9, 10, 11, 12, 13] rfl [] [((h 0), .inr (6, [.ref ((h 1)), .ref ((h 2)), .ref ((h 3)), .int (nI km), .ref ((h 4)), .int (nI le), .int (nI sp), .ref ((h 5)), .ref ((h 6)), .int (nI ro), .ref ((h 7)), .ref ((h 8)), .ref ((h 9)), .ref ((h 10)), .ref ((h 11)), .ref ((h 12)), .ref ((h 13))])), ((h 1), .inl (cI, 99, .inl (sA F))), ((h 2), .inl (cI, 99, .inl fr)), ((h 3), .inl (cI, 594, .inl (kA Q))), ((h 4), .inl (cI, 200, .inl (fun zz => nI (ft zz)))), ((h 5), .inl (cI, 12, .inl (fun zz => nI (B zz)))), ((h 6), .inl (cI, 12, .inl (fun zz => nI (Bt zz)))), ((h 7), .inl (cJ, 16, .inr (.inl W))), ((h 8), .inl (cJ, 16, .inr (.inl M))), ((h 9), .inl (cI, 9, .inl (fun zz => nI (a1 zz)))), ((h 10), .inl (cI, 9, .inl (fun zz => nI (a2 zz)))), ((h 11), .inl (cI, 198, .inl (fun zz => nI ((updN (cpP a3 v k) ((22 * (v + 1)) + (a2 v - 1)) (F (5 + 5 * r + 4) - 1)) zz)))), ((h 12), .inl (cI, 9, .inl (fun zz => nI (a4 zz)))), ((h 13), .inl (cI, 9, .inl (fA a5)))] (fun _ => rfl) [] [(h 0), (h 1), (h 2), (h 3), (h 4), (h 5), (h 6), (h 7), (h 8), (h 9), (h 10), (h 11), (h 12), (h 13)] rfl rfl rfl rfl rfl (by decide) (by decide) 0 rfl rfl rfl (Nat.le_of_ble_eq_true rfl) dX10_goes_63 (fun u_63 h_63 => ?_) rfl
          show J l _ D ε _ _ _ (.int (nI (F (5 + 5 * r + 3)) - nI 1) :: _)
          refine j_iconst (v := (-1)) EE dX10_goes_66 (by decide) ?_
          refine j_icmp_eq EE 93 dX10_goes_67 (by decide) (fun c67 => ?_) (fun c67 => ?_)
          · skip
            have m67 := (b_m1w (hFb _)).mp c67
            refine j_iinc (v := nI 2) EE 0 [(4, .int (nI 2)), (3, _), (0, _), (1, _), (2, _)] dX10_goes_93 rfl (by decide) (Nat.lt_of_lt_of_eq (by decide) hL.symm) rfl ?_
            refine j_goto EE 53 dX10_goes_96 (by decide) ?_
            refine j_iload EE 0 dX10_goes_53 rfl ?_
            refine j_iconst (v := nI 2) EE dX10_goes_55 (by decide) ?_
            refine j_icmp_le EE 99 dX10_goes_56 (by decide) (fun c56 => ?_) (fun c56 => absurd (by decide) c56)
            have n56 : 2 ≤ 2 := (nI_leI (a := 2) (b := 2) (by omega) (by omega)).mp c56
            refine j_aload_n EE 2 dX10_goes_99 rfl rfl ?_
            refine j_get (T := TX10) EE iw_X10_goes_X10 0 rfl rfl 13 (by decide) lk_X10_goes_38 rfl dX10_goes_100 ?_
            refine j_iload_n EE 3 dX10_goes_103 rfl rfl ?_
            refine j_iconst (v := nI 1) EE dX10_goes_104 (by decide) ?_
            refine j_iadd EE dX10_goes_105 ?_
            refine j_topE (nI_add v 1) ?_
            refine j_iload_n EE 1 dX10_goes_106 rfl rfl ?_
            refine j_iast (ws' := [((h 0), .inr (6, [.ref ((h 1)), .ref ((h 2)), .ref ((h 3)), .int (nI km), .ref ((h 4)), .int (nI le), .int (nI sp), .ref ((h 5)), .ref ((h 6)), .int (nI ro), .ref ((h 7)), .ref ((h 8)), .ref ((h 9)), .ref ((h 10)), .ref ((h 11)), .ref ((h 12)), .ref ((h 13))])), ((h 1), .inl (cI, 99, .inl (sA F))), ((h 2), .inl (cI, 99, .inl fr)), ((h 3), .inl (cI, 594, .inl (kA Q))), ((h 4), .inl (cI, 200, .inl (fun zz => nI (ft zz)))), ((h 5), .inl (cI, 12, .inl (fun zz => nI (B zz)))), ((h 6), .inl (cI, 12, .inl (fun zz => nI (Bt zz)))), ((h 7), .inl (cJ, 16, .inr (.inl W))), ((h 8), .inl (cJ, 16, .inr (.inl M))), ((h 9), .inl (cI, 9, .inl (fun zz => nI (a1 zz)))), ((h 10), .inl (cI, 9, .inl (fun zz => nI ((updN a2 (v + 1) ((a2 v - 1) + 1)) zz)))), ((h 11), .inl (cI, 198, .inl (fun zz => nI ((updN (cpP a3 v k) ((22 * (v + 1)) + (a2 v - 1)) (F (5 + 5 * r + 4) - 1)) zz)))), ((h 12), .inl (cI, 9, .inl (fun zz => nI (a4 zz)))), ((h 13), .inl (cI, 9, .inl (fA a5)))]) EE 10 0 rfl rfl (vp_in_nI (n := v + 1) (by omega) (by decide)) (by rw [nI_clamp (by omega), upd_N]; rfl) dX10_goes_107 ?_
            refine j_aload_n EE 2 dX10_goes_108 rfl rfl ?_
            refine j_get (T := TX10) EE iw_X10_goes_X10 0 rfl rfl 12 (by decide) lk_X10_goes_35 rfl dX10_goes_109 ?_
            refine j_iload_n EE 3 dX10_goes_112 rfl rfl ?_
            refine j_iconst (v := nI 1) EE dX10_goes_113 (by decide) ?_
            refine j_iadd EE dX10_goes_114 ?_
            refine j_topE (nI_add v 1) ?_
            refine j_aload_n EE 2 dX10_goes_115 rfl rfl ?_
            refine j_iload_n EE 4 dX10_goes_116 rfl rfl ?_
            refine j_iconst (v := nI 2) EE dX10_goes_117 (by decide) ?_
            refine j_V2 (n9 := 14) EE (c_X10_ofRule h F Q ft B Bt a1 (updN a2 (v + 1) ((a2 v - 1) + 1)) (updN (cpP a3 v k) ((22 * (v + 1)) + (a2 v - 1)) (F (5 + 5 * r + 4) - 1)) a4 a5 fr W M km le sp ro r 2 (by omega) (by omega)) gX10_goes_X10_ofRule ⟨rfl, hd_X10_ofRule⟩ rfl ⟨rfl, rfl⟩ ⟨by decide, by decide⟩ rfl [0, 1, 2, 3, 4, 5, 6, 7, 8, 9, 10, 11, 12, 13] rfl [] [((h 0), .inr (6, [.ref ((h 1)), .ref ((h 2)), .ref ((h 3)), .int (nI km), .ref ((h 4)), .int (nI le), .int (nI sp), .ref ((h 5)), .ref ((h 6)), .int (nI ro), .ref ((h 7)), .ref ((h 8)), .ref ((h 9)), .ref ((h 10)), .ref ((h 11)), .ref ((h 12)), .ref ((h 13))])), ((h 1), .inl (cI, 99, .inl (sA F))), ((h 2), .inl (cI, 99, .inl fr)), ((h 3), .inl (cI, 594, .inl (kA Q))), ((h 4), .inl (cI, 200, .inl (fun zz => nI (ft zz)))), ((h 5), .inl (cI, 12, .inl (fun zz => nI (B zz)))), ((h 6), .inl (cI, 12, .inl (fun zz => nI (Bt zz)))), ((h 7), .inl (cJ, 16, .inr (.inl W))), ((h 8), .inl (cJ, 16, .inr (.inl M))), ((h 9), .inl (cI, 9, .inl (fun zz => nI (a1 zz)))), ((h 10), .inl (cI, 9, .inl (fun zz => nI ((updN a2 (v + 1) ((a2 v - 1) + 1)) zz)))), ((h 11), .inl (cI, 198, .inl (fun zz => nI ((updN (cpP a3 v k) ((22 * (v + 1)) + (a2 v - 1)) (F (5 + 5 * r + 4) - 1)) zz)))), ((h 12), .inl (cI, 9, .inl (fun zz => nI (a4 zz)))), ((h 13), .inl (cI, 9, .inl (fA a5)))] (fun _ => rfl) [] [(h 0), (h 1), (h 2), (h 3), (h 4), (h 5), (h 6), (h 7), (h 8), (h 9), (h 10), (h 11), (h 12), (h 13)] rfl rfl rfl rfl rfl (by decide) (by decide) 0 rfl rfl rfl (Nat.le_of_ble_eq_true rfl) dX10_goes_118 (fun u_118 h_118 => ?_) rfl
            show J l _ D ε _ _ _ (.int (nI (F (5 + 5 * r + 2))) :: _)
            refine j_iast (ws' := [((h 0), .inr (6, [.ref ((h 1)), .ref ((h 2)), .ref ((h 3)), .int (nI km), .ref ((h 4)), .int (nI le), .int (nI sp), .ref ((h 5)), .ref ((h 6)), .int (nI ro), .ref ((h 7)), .ref ((h 8)), .ref ((h 9)), .ref ((h 10)), .ref ((h 11)), .ref ((h 12)), .ref ((h 13))])), ((h 1), .inl (cI, 99, .inl (sA F))), ((h 2), .inl (cI, 99, .inl fr)), ((h 3), .inl (cI, 594, .inl (kA Q))), ((h 4), .inl (cI, 200, .inl (fun zz => nI (ft zz)))), ((h 5), .inl (cI, 12, .inl (fun zz => nI (B zz)))), ((h 6), .inl (cI, 12, .inl (fun zz => nI (Bt zz)))), ((h 7), .inl (cJ, 16, .inr (.inl W))), ((h 8), .inl (cJ, 16, .inr (.inl M))), ((h 9), .inl (cI, 9, .inl (fun zz => nI ((updN a1 (v + 1) (F (5 + 5 * r + 2))) zz)))), ((h 10), .inl (cI, 9, .inl (fun zz => nI ((updN a2 (v + 1) ((a2 v - 1) + 1)) zz)))), ((h 11), .inl (cI, 198, .inl (fun zz => nI ((updN (cpP a3 v k) ((22 * (v + 1)) + (a2 v - 1)) (F (5 + 5 * r + 4) - 1)) zz)))), ((h 12), .inl (cI, 9, .inl (fun zz => nI (a4 zz)))), ((h 13), .inl (cI, 9, .inl (fA a5)))]) EE 9 0 rfl rfl (vp_in_nI (n := v + 1) (by omega) (by decide)) (by rw [nI_clamp (by omega), upd_N]; rfl) dX10_goes_121 ?_
            refine j_aload_n EE 2 dX10_goes_122 rfl rfl ?_
            refine j_iload_n EE 3 dX10_goes_123 rfl rfl ?_
            refine j_iconst (v := nI 1) EE dX10_goes_124 (by decide) ?_
            refine j_iadd EE dX10_goes_125 ?_
            refine j_topE (nI_add v 1) ?_
            refine j_V2 (n9 := 14) EE (c_X10_begins h F Q ft B Bt (updN a1 (v + 1) (F (5 + 5 * r + 2))) (updN a2 (v + 1) ((a2 v - 1) + 1)) (updN (cpP a3 v k) ((22 * (v + 1)) + (a2 v - 1)) (F (5 + 5 * r + 4) - 1)) a4 a5 fr W M km le sp ro (v + 1) (by omega)) gX10_goes_X10_begins ⟨rfl, hd_X10_begins⟩ rfl ⟨rfl, rfl⟩ ⟨by decide, by decide⟩ rfl [0, 1, 2, 3, 4, 5, 6, 7, 8, 9, 10, 11, 12, 13] rfl [] [((h 0), .inr (6, [.ref ((h 1)), .ref ((h 2)), .ref ((h 3)), .int (nI km), .ref ((h 4)), .int (nI le), .int (nI sp), .ref ((h 5)), .ref ((h 6)), .int (nI ro), .ref ((h 7)), .ref ((h 8)), .ref ((h 9)), .ref ((h 10)), .ref ((h 11)), .ref ((h 12)), .ref ((h 13))])), ((h 1), .inl (cI, 99, .inl (sA F))), ((h 2), .inl (cI, 99, .inl fr)), ((h 3), .inl (cI, 594, .inl (kA Q))), ((h 4), .inl (cI, 200, .inl (fun zz => nI (ft zz)))), ((h 5), .inl (cI, 12, .inl (fun zz => nI (B zz)))), ((h 6), .inl (cI, 12, .inl (fun zz => nI (Bt zz)))), ((h 7), .inl (cJ, 16, .inr (.inl W))), ((h 8), .inl (cJ, 16, .inr (.inl M))), ((h 9), .inl (cI, 9, .inl (fun zz => nI ((updN a1 (v + 1) (F (5 + 5 * r + 2))) zz)))), ((h 10), .inl (cI, 9, .inl (fun zz => nI ((updN a2 (v + 1) ((a2 v - 1) + 1)) zz)))), ((h 11), .inl (cI, 198, .inl (fun zz => nI ((updN (cpP a3 v k) ((22 * (v + 1)) + (a2 v - 1)) (F (5 + 5 * r + 4) - 1)) zz)))), ((h 12), .inl (cI, 9, .inl (fun zz => nI ((updN a4 (v + 1) 0) zz)))), ((h 13), .inl (cI, 9, .inl (fA (updN a5 (v + 1) 0))))] (fun _ => rfl) [] [(h 0), (h 1), (h 2), (h 3), (h 4), (h 5), (h 6), (h 7), (h 8), (h 9), (h 10), (h 11), (h 12), (h 13)] rfl rfl rfl rfl rfl (by decide) (by decide) 0 rfl rfl rfl (Nat.le_of_ble_eq_true rfl) dX10_goes_126 (fun u_126 h_126 => ?_) rfl
            exact j_vret EE FF dX10_goes_129 () trivial rfl (by unfold goP goH; simp only [*, if_true, if_false, Nat.add_zero])
          · skip
            first | have m67 : ¬ F (5 + 5 * r + 4) = 0 := fun hq => c67 ((b_m1w (hFb _)).mpr hq) | have m67 : ¬ F (5 + 5 * r + 3) = 0 := fun hq => c67 ((b_m1w (hFb _)).mpr hq)
            refine j_aload_n EE 2 dX10_goes_70 rfl rfl ?_
            refine j_get (T := TX10) EE iw_X10_goes_X10 0 rfl rfl 14 (by decide) lk_X10_goes_41 rfl dX10_goes_71 ?_
            refine j_bipush (v := nI 22) EE dX10_goes_74 (by decide) ?_
            refine j_iload_n EE 3 dX10_goes_76 rfl rfl ?_
            refine j_iconst (v := nI 1) EE dX10_goes_77 (by decide) ?_
            refine j_iadd EE dX10_goes_78 ?_
            refine j_topE (nI_add v 1) ?_
            refine j_imul EE dX10_goes_79 ?_
            refine j_topE (pk_mul 22 (v + 1)) ?_
            refine j_iload_n EE 1 dX10_goes_80 rfl rfl ?_
            refine j_iadd EE dX10_goes_81 ?_
            refine j_topE (nI_add (22 * (v + 1)) ((a2 v - 1) + 1)) ?_
            refine j_aload_n EE 2 dX10_goes_82 rfl rfl ?_
            refine j_iload_n EE 4 dX10_goes_83 rfl rfl ?_
            refine j_iload EE 0 dX10_goes_84 rfl ?_
            refine j_V2 (n9 := 14) EE (c_X10_ofRuleW h F Q ft B Bt a1 a2 (updN (cpP a3 v k) ((22 * (v + 1)) + (a2 v - 1)) (F (5 + 5 * r + 4) - 1)) a4 a5 fr W M km le sp ro r 3 (by omega) (by omega) (by omega)) gX10_goes_X10_ofRule ⟨rfl, hd_X10_ofRule⟩ rfl ⟨rfl, rfl⟩ ⟨by decide, by decide⟩ rfl [0, 1, 2, 3, 4, 5, 6, 7, 8, 9, 10, 11, 12, 13] rfl [] [((h 0), .inr (6, [.ref ((h 1)), .ref ((h 2)), .ref ((h 3)), .int (nI km), .ref ((h 4)), .int (nI le), .int (nI sp), .ref ((h 5)), .ref ((h 6)), .int (nI ro), .ref ((h 7)), .ref ((h 8)), .ref ((h 9)), .ref ((h 10)), .ref ((h 11)), .ref ((h 12)), .ref ((h 13))])), ((h 1), .inl (cI, 99, .inl (sA F))), ((h 2), .inl (cI, 99, .inl fr)), ((h 3), .inl (cI, 594, .inl (kA Q))), ((h 4), .inl (cI, 200, .inl (fun zz => nI (ft zz)))), ((h 5), .inl (cI, 12, .inl (fun zz => nI (B zz)))), ((h 6), .inl (cI, 12, .inl (fun zz => nI (Bt zz)))), ((h 7), .inl (cJ, 16, .inr (.inl W))), ((h 8), .inl (cJ, 16, .inr (.inl M))), ((h 9), .inl (cI, 9, .inl (fun zz => nI (a1 zz)))), ((h 10), .inl (cI, 9, .inl (fun zz => nI (a2 zz)))), ((h 11), .inl (cI, 198, .inl (fun zz => nI ((updN (cpP a3 v k) ((22 * (v + 1)) + (a2 v - 1)) (F (5 + 5 * r + 4) - 1)) zz)))), ((h 12), .inl (cI, 9, .inl (fun zz => nI (a4 zz)))), ((h 13), .inl (cI, 9, .inl (fA a5)))] (fun _ => rfl) [] [(h 0), (h 1), (h 2), (h 3), (h 4), (h 5), (h 6), (h 7), (h 8), (h 9), (h 10), (h 11), (h 12), (h 13)] rfl rfl rfl rfl rfl (by decide) (by decide) 0 rfl rfl rfl (Nat.le_of_ble_eq_true rfl) dX10_goes_86 (fun u_86 h_86 => ?_) rfl
            show J l _ D ε _ _ _ (.int (nI (F (5 + 5 * r + 3)) - nI 1) :: _)
            refine j_topE (y := nI (F (5 + 5 * r + 3) - 1)) (pk_sub (by omega)) ?_
            show J l _ D ε _ _ _ (.int (nI (F (5 + 5 * r + 3) - 1)) :: _)
            refine j_iast (ws' := [((h 0), .inr (6, [.ref ((h 1)), .ref ((h 2)), .ref ((h 3)), .int (nI km), .ref ((h 4)), .int (nI le), .int (nI sp), .ref ((h 5)), .ref ((h 6)), .int (nI ro), .ref ((h 7)), .ref ((h 8)), .ref ((h 9)), .ref ((h 10)), .ref ((h 11)), .ref ((h 12)), .ref ((h 13))])), ((h 1), .inl (cI, 99, .inl (sA F))), ((h 2), .inl (cI, 99, .inl fr)), ((h 3), .inl (cI, 594, .inl (kA Q))), ((h 4), .inl (cI, 200, .inl (fun zz => nI (ft zz)))), ((h 5), .inl (cI, 12, .inl (fun zz => nI (B zz)))), ((h 6), .inl (cI, 12, .inl (fun zz => nI (Bt zz)))), ((h 7), .inl (cJ, 16, .inr (.inl W))), ((h 8), .inl (cJ, 16, .inr (.inl M))), ((h 9), .inl (cI, 9, .inl (fun zz => nI (a1 zz)))), ((h 10), .inl (cI, 9, .inl (fun zz => nI (a2 zz)))), ((h 11), .inl (cI, 198, .inl (fun zz => nI ((updN (updN (cpP a3 v k) ((22 * (v + 1)) + (a2 v - 1)) (F (5 + 5 * r + 4) - 1)) ((22 * (v + 1)) + ((a2 v - 1) + 1)) (F (5 + 5 * r + 3) - 1)) zz)))), ((h 12), .inl (cI, 9, .inl (fun zz => nI (a4 zz)))), ((h 13), .inl (cI, 9, .inl (fA a5)))]) EE 11 0 rfl rfl (vp_in_nI (n := (22 * (v + 1)) + ((a2 v - 1) + 1)) (by omega) (by decide)) (by rw [nI_clamp (by omega), upd_N]; rfl) dX10_goes_89 ?_
            refine j_iinc (v := nI (((a2 v - 1) + 1) + 1)) EE 1 [(3, .int (nI (((a2 v - 1) + 1) + 1))), (4, _), (0, _), (1, _), (2, _)] dX10_goes_90 rfl (nI_1 ((a2 v - 1) + 1)) (Nat.lt_of_lt_of_eq (by decide) hL.symm) rfl ?_
            refine j_iinc (v := nI 2) EE 1 [(4, .int (nI 2)), (3, _), (0, _), (1, _), (2, _)] dX10_goes_93 rfl (by decide) (Nat.lt_of_lt_of_eq (by decide) hL.symm) rfl ?_
            refine j_goto EE 53 dX10_goes_96 (by decide) ?_
            refine j_iload EE 0 dX10_goes_53 rfl ?_
            refine j_iconst (v := nI 2) EE dX10_goes_55 (by decide) ?_
            refine j_icmp_le EE 99 dX10_goes_56 (by decide) (fun c56 => ?_) (fun c56 => absurd (by decide) c56)
            have n56 : 2 ≤ 2 := (nI_leI (a := 2) (b := 2) (by omega) (by omega)).mp c56
            refine j_aload_n EE 2 dX10_goes_99 rfl rfl ?_
            refine j_get (T := TX10) EE iw_X10_goes_X10 0 rfl rfl 13 (by decide) lk_X10_goes_38 rfl dX10_goes_100 ?_
            refine j_iload_n EE 3 dX10_goes_103 rfl rfl ?_
            refine j_iconst (v := nI 1) EE dX10_goes_104 (by decide) ?_
            refine j_iadd EE dX10_goes_105 ?_
            refine j_topE (nI_add v 1) ?_
            refine j_iload_n EE 1 dX10_goes_106 rfl rfl ?_
            refine j_iast (ws' := [((h 0), .inr (6, [.ref ((h 1)), .ref ((h 2)), .ref ((h 3)), .int (nI km), .ref ((h 4)), .int (nI le), .int (nI sp), .ref ((h 5)), .ref ((h 6)), .int (nI ro), .ref ((h 7)), .ref ((h 8)), .ref ((h 9)), .ref ((h 10)), .ref ((h 11)), .ref ((h 12)), .ref ((h 13))])), ((h 1), .inl (cI, 99, .inl (sA F))), ((h 2), .inl (cI, 99, .inl fr)), ((h 3), .inl (cI, 594, .inl (kA Q))), ((h 4), .inl (cI, 200, .inl (fun zz => nI (ft zz)))), ((h 5), .inl (cI, 12, .inl (fun zz => nI (B zz)))), ((h 6), .inl (cI, 12, .inl (fun zz => nI (Bt zz)))), ((h 7), .inl (cJ, 16, .inr (.inl W))), ((h 8), .inl (cJ, 16, .inr (.inl M))), ((h 9), .inl (cI, 9, .inl (fun zz => nI (a1 zz)))), ((h 10), .inl (cI, 9, .inl (fun zz => nI ((updN a2 (v + 1) (((a2 v - 1) + 1) + 1)) zz)))), ((h 11), .inl (cI, 198, .inl (fun zz => nI ((updN (updN (cpP a3 v k) ((22 * (v + 1)) + (a2 v - 1)) (F (5 + 5 * r + 4) - 1)) ((22 * (v + 1)) + ((a2 v - 1) + 1)) (F (5 + 5 * r + 3) - 1)) zz)))), ((h 12), .inl (cI, 9, .inl (fun zz => nI (a4 zz)))), ((h 13), .inl (cI, 9, .inl (fA a5)))]) EE 10 0 rfl rfl (vp_in_nI (n := v + 1) (by omega) (by decide)) (by rw [nI_clamp (by omega), upd_N]; rfl) dX10_goes_107 ?_
            refine j_aload_n EE 2 dX10_goes_108 rfl rfl ?_
            refine j_get (T := TX10) EE iw_X10_goes_X10 0 rfl rfl 12 (by decide) lk_X10_goes_35 rfl dX10_goes_109 ?_
            refine j_iload_n EE 3 dX10_goes_112 rfl rfl ?_
            refine j_iconst (v := nI 1) EE dX10_goes_113 (by decide) ?_
            refine j_iadd EE dX10_goes_114 ?_
            refine j_topE (nI_add v 1) ?_
            refine j_aload_n EE 2 dX10_goes_115 rfl rfl ?_
            refine j_iload_n EE 4 dX10_goes_116 rfl rfl ?_
            refine j_iconst (v := nI 2) EE dX10_goes_117 (by decide) ?_
            refine j_V2 (n9 := 14) EE (c_X10_ofRule h F Q ft B Bt a1 (updN a2 (v + 1) (((a2 v - 1) + 1) + 1)) (updN (updN (cpP a3 v k) ((22 * (v + 1)) + (a2 v - 1)) (F (5 + 5 * r + 4) - 1)) ((22 * (v + 1)) + ((a2 v - 1) + 1)) (F (5 + 5 * r + 3) - 1)) a4 a5 fr W M km le sp ro r 2 (by omega) (by omega)) gX10_goes_X10_ofRule ⟨rfl, hd_X10_ofRule⟩ rfl ⟨rfl, rfl⟩ ⟨by decide, by decide⟩ rfl [0, 1, 2, 3, 4, 5, 6, 7, 8, 9, 10, 11, 12, 13] rfl [] [((h 0), .inr (6, [.ref ((h 1)), .ref ((h 2)), .ref ((h 3)), .int (nI km), .ref ((h 4)), .int (nI le), .int (nI sp), .ref ((h 5)), .ref ((h 6)), .int (nI ro), .ref ((h 7)), .ref ((h 8)), .ref ((h 9)), .ref ((h 10)), .ref ((h 11)), .ref ((h 12)), .ref ((h 13))])), ((h 1), .inl (cI, 99, .inl (sA F))), ((h 2), .inl (cI, 99, .inl fr)), ((h 3), .inl (cI, 594, .inl (kA Q))), ((h 4), .inl (cI, 200, .inl (fun zz => nI (ft zz)))), ((h 5), .inl (cI, 12, .inl (fun zz => nI (B zz)))), ((h 6), .inl (cI, 12, .inl (fun zz => nI (Bt zz)))), ((h 7), .inl (cJ, 16, .inr (.inl W))), ((h 8), .inl (cJ, 16, .inr (.inl M))), ((h 9), .inl (cI, 9, .inl (fun zz => nI (a1 zz)))), ((h 10), .inl (cI, 9, .inl (fun zz => nI ((updN a2 (v + 1) (((a2 v - 1) + 1) + 1)) zz)))), ((h 11), .inl (cI, 198, .inl (fun zz => nI ((updN (updN (cpP a3 v k) ((22 * (v + 1)) + (a2 v - 1)) (F (5 + 5 * r + 4) - 1)) ((22 * (v + 1)) + ((a2 v - 1) + 1)) (F (5 + 5 * r + 3) - 1)) zz)))), ((h 12), .inl (cI, 9, .inl (fun zz => nI (a4 zz)))), ((h 13), .inl (cI, 9, .inl (fA a5)))] (fun _ => rfl) [] [(h 0), (h 1), (h 2), (h 3), (h 4), (h 5), (h 6), (h 7), (h 8), (h 9), (h 10), (h 11), (h 12), (h 13)] rfl rfl rfl rfl rfl (by decide) (by decide) 0 rfl rfl rfl (Nat.le_of_ble_eq_true rfl) dX10_goes_118 (fun u_118 h_118 => ?_) rfl
            show J l _ D ε _ _ _ (.int (nI (F (5 + 5 * r + 2))) :: _)
            refine j_iast (ws' := [((h 0), .inr (6, [.ref ((h 1)), .ref ((h 2)), .ref ((h 3)), .int (nI km), .ref ((h 4)), .int (nI le), .int (nI sp), .ref ((h 5)), .ref ((h 6)), .int (nI ro), .ref ((h 7)), .ref ((h 8)), .ref ((h 9)), .ref ((h 10)), .ref ((h 11)), .ref ((h 12)), .ref ((h 13))])), ((h 1), .inl (cI, 99, .inl (sA F))), ((h 2), .inl (cI, 99, .inl fr)), ((h 3), .inl (cI, 594, .inl (kA Q))), ((h 4), .inl (cI, 200, .inl (fun zz => nI (ft zz)))), ((h 5), .inl (cI, 12, .inl (fun zz => nI (B zz)))), ((h 6), .inl (cI, 12, .inl (fun zz => nI (Bt zz)))), ((h 7), .inl (cJ, 16, .inr (.inl W))), ((h 8), .inl (cJ, 16, .inr (.inl M))), ((h 9), .inl (cI, 9, .inl (fun zz => nI ((updN a1 (v + 1) (F (5 + 5 * r + 2))) zz)))), ((h 10), .inl (cI, 9, .inl (fun zz => nI ((updN a2 (v + 1) (((a2 v - 1) + 1) + 1)) zz)))), ((h 11), .inl (cI, 198, .inl (fun zz => nI ((updN (updN (cpP a3 v k) ((22 * (v + 1)) + (a2 v - 1)) (F (5 + 5 * r + 4) - 1)) ((22 * (v + 1)) + ((a2 v - 1) + 1)) (F (5 + 5 * r + 3) - 1)) zz)))), ((h 12), .inl (cI, 9, .inl (fun zz => nI (a4 zz)))), ((h 13), .inl (cI, 9, .inl (fA a5)))]) EE 9 0 rfl rfl (vp_in_nI (n := v + 1) (by omega) (by decide)) (by rw [nI_clamp (by omega), upd_N]; rfl) dX10_goes_121 ?_
            refine j_aload_n EE 2 dX10_goes_122 rfl rfl ?_
            refine j_iload_n EE 3 dX10_goes_123 rfl rfl ?_
            refine j_iconst (v := nI 1) EE dX10_goes_124 (by decide) ?_
            refine j_iadd EE dX10_goes_125 ?_
            refine j_topE (nI_add v 1) ?_
            refine j_V2 (n9 := 14) EE (c_X10_begins h F Q ft B Bt (updN a1 (v + 1) (F (5 + 5 * r + 2))) (updN a2 (v + 1) (((a2 v - 1) + 1) + 1)) (updN (updN (cpP a3 v k) ((22 * (v + 1)) + (a2 v - 1)) (F (5 + 5 * r + 4) - 1)) ((22 * (v + 1)) + ((a2 v - 1) + 1)) (F (5 + 5 * r + 3) - 1)) a4 a5 fr W M km le sp ro (v + 1) (by omega)) gX10_goes_X10_begins ⟨rfl, hd_X10_begins⟩ rfl ⟨rfl, rfl⟩ ⟨by decide, by decide⟩ rfl [0, 1, 2, 3, 4, 5, 6, 7, 8, 9, 10, 11, 12, 13] rfl [] [((h 0), .inr (6, [.ref ((h 1)), .ref ((h 2)), .ref ((h 3)), .int (nI km), .ref ((h 4)), .int (nI le), .int (nI sp), .ref ((h 5)), .ref ((h 6)), .int (nI ro), .ref ((h 7)), .ref ((h 8)), .ref ((h 9)), .ref ((h 10)), .ref ((h 11)), .ref ((h 12)), .ref ((h 13))])), ((h 1), .inl (cI, 99, .inl (sA F))), ((h 2), .inl (cI, 99, .inl fr)), ((h 3), .inl (cI, 594, .inl (kA Q))), ((h 4), .inl (cI, 200, .inl (fun zz => nI (ft zz)))), ((h 5), .inl (cI, 12, .inl (fun zz => nI (B zz)))), ((h 6), .inl (cI, 12, .inl (fun zz => nI (Bt zz)))), ((h 7), .inl (cJ, 16, .inr (.inl W))), ((h 8), .inl (cJ, 16, .inr (.inl M))), ((h 9), .inl (cI, 9, .inl (fun zz => nI ((updN a1 (v + 1) (F (5 + 5 * r + 2))) zz)))), ((h 10), .inl (cI, 9, .inl (fun zz => nI ((updN a2 (v + 1) (((a2 v - 1) + 1) + 1)) zz)))), ((h 11), .inl (cI, 198, .inl (fun zz => nI ((updN (updN (cpP a3 v k) ((22 * (v + 1)) + (a2 v - 1)) (F (5 + 5 * r + 4) - 1)) ((22 * (v + 1)) + ((a2 v - 1) + 1)) (F (5 + 5 * r + 3) - 1)) zz)))), ((h 12), .inl (cI, 9, .inl (fun zz => nI ((updN a4 (v + 1) 0) zz)))), ((h 13), .inl (cI, 9, .inl (fA (updN a5 (v + 1) 0))))] (fun _ => rfl) [] [(h 0), (h 1), (h 2), (h 3), (h 4), (h 5), (h 6), (h 7), (h 8), (h 9), (h 10), (h 11), (h 12), (h 13)] rfl rfl rfl rfl rfl (by decide) (by decide) 0 rfl rfl rfl (Nat.le_of_ble_eq_true rfl) dX10_goes_126 (fun u_126 h_126 => ?_) rfl
            exact j_vret EE FF dX10_goes_129 () trivial rfl (by unfold goP goH; simp only [*, if_true, if_false, Nat.add_zero])
      · skip
        have n15 : ¬ (a2 v - 1) ≤ k := fun hq => c15 ((nI_leI (a := (a2 v - 1)) (b := k) (by omega) (by omega)).mpr hq)
        refine j_aload_n EE 2 dX10_goes_18 rfl rfl ?_
        refine j_get (T := TX10) EE iw_X10_goes_X10 0 rfl rfl 14 (by decide) lk_X10_goes_41 rfl dX10_goes_19 ?_
        refine j_bipush (v := nI 22) EE dX10_goes_22 (by decide) ?_
        refine j_iload_n EE 3 dX10_goes_24 rfl rfl ?_
        refine j_iconst (v := nI 1) EE dX10_goes_25 (by decide) ?_
        refine j_iadd EE dX10_goes_26 ?_
        refine j_topE (nI_add v 1) ?_
        refine j_imul EE dX10_goes_27 ?_
        refine j_topE (pk_mul 22 (v + 1)) ?_
        refine j_iload EE 0 dX10_goes_28 rfl ?_
        refine j_iadd EE dX10_goes_30 ?_
        refine j_topE (nI_add (22 * (v + 1)) k) ?_
        refine j_aload_n EE 2 dX10_goes_31 rfl rfl ?_
        refine j_get (T := TX10) EE iw_X10_goes_X10 0 rfl rfl 14 (by decide) lk_X10_goes_41 rfl dX10_goes_32 ?_
        refine j_bipush (v := nI 22) EE dX10_goes_35 (by decide) ?_
        refine j_iload_n EE 3 dX10_goes_37 rfl rfl ?_
        refine j_imul EE dX10_goes_38 ?_
        refine j_topE (pk_mul 22 v) ?_
        refine j_iload EE 0 dX10_goes_39 rfl ?_
        refine j_iadd EE dX10_goes_41 ?_
        refine j_topE (nI_add (22 * v) k) ?_
        refine j_iald EE 11 0 rfl rfl (vp_in_nI (n := (22 * v) + k) (by omega) (by decide)) dX10_goes_42 ?_
        refine j_topE (congrArg (fun zz => nI ((cpP a3 v k) zz)) (nI_clamp (n := (22 * v) + k) (by omega))) ?_
        refine j_topE (y := nI ((cpP a3 v k) ((22 * v) + k))) rfl ?_
        refine j_iast (ws' := [((h 0), .inr (6, [.ref ((h 1)), .ref ((h 2)), .ref ((h 3)), .int (nI km), .ref ((h 4)), .int (nI le), .int (nI sp), .ref ((h 5)), .ref ((h 6)), .int (nI ro), .ref ((h 7)), .ref ((h 8)), .ref ((h 9)), .ref ((h 10)), .ref ((h 11)), .ref ((h 12)), .ref ((h 13))])), ((h 1), .inl (cI, 99, .inl (sA F))), ((h 2), .inl (cI, 99, .inl fr)), ((h 3), .inl (cI, 594, .inl (kA Q))), ((h 4), .inl (cI, 200, .inl (fun zz => nI (ft zz)))), ((h 5), .inl (cI, 12, .inl (fun zz => nI (B zz)))), ((h 6), .inl (cI, 12, .inl (fun zz => nI (Bt zz)))), ((h 7), .inl (cJ, 16, .inr (.inl W))), ((h 8), .inl (cJ, 16, .inr (.inl M))), ((h 9), .inl (cI, 9, .inl (fun zz => nI (a1 zz)))), ((h 10), .inl (cI, 9, .inl (fun zz => nI (a2 zz)))), ((h 11), .inl (cI, 198, .inl (fun zz => nI ((cpP a3 v (k + 1)) zz)))), ((h 12), .inl (cI, 9, .inl (fun zz => nI (a4 zz)))), ((h 13), .inl (cI, 9, .inl (fA a5)))]) EE 11 0 rfl rfl (vp_in_nI (n := (22 * (v + 1)) + k) (by omega) (by decide)) (by rw [nI_clamp (by omega), upd_N, cpP_s a3 v k (by omega)]; rfl) dX10_goes_43 ?_
        refine j_iinc (v := nI (k + 1)) EE 0 [(4, .int (nI (k + 1))), (3, _), (0, _), (1, _), (2, _)] dX10_goes_44 rfl (nI_1 k) (Nat.lt_of_lt_of_eq (by decide) hL.symm) rfl ?_
        refine j_goto EE 12 dX10_goes_47 (by decide) ?_
        exact ihp_12 (k + 1) (by omega) (by omega)
  refine j_aload_n EE 0 dX10_goes_0 rfl rfl ?_
  refine j_get (T := TX10) EE iw_X10_goes_X10 0 rfl rfl 13 (by decide) lk_X10_goes_38 rfl dX10_goes_1 ?_
  refine j_iload_n EE 1 dX10_goes_4 rfl rfl ?_
  refine j_iald EE 10 0 rfl rfl (vp_in_nI (n := v) (by omega) (by decide)) dX10_goes_5 ?_
  refine j_topE (congrArg (fun zz => nI (a2 zz)) (nI_clamp (n := v) (by omega))) ?_
  refine j_topE (y := nI (a2 v)) rfl ?_
  refine j_iconst (v := nI 1) EE dX10_goes_6 (by decide) ?_
  refine j_isub EE dX10_goes_7 ?_
  refine j_topE (pk_sub (a := a2 v) (b := 1) (by omega)) ?_
  refine j_istore_n EE [(3, _), (0, _), (1, _), (2, _)] dX10_goes_8 rfl (Nat.lt_of_lt_of_eq (by decide) hL.symm) rfl ?_
  refine j_iconst (v := nI 0) EE dX10_goes_9 (by decide) ?_
  refine j_istore EE [(4, _), (3, _), (0, _), (1, _), (2, _)] dX10_goes_10 (Nat.lt_of_lt_of_eq (by decide) hL.symm) rfl ?_
  rw [← cpP_0 a3 v]
  exact Lp_12 _ 0 (Nat.lt_succ_self _) (by omega)

theorem iw_X10_letter_X10 : ∀ w ∈ wsX100, w ∈ wsX10_letter := fun _ h => List.mem_cons_of_mem _ (List.mem_append_right _ h)
theorem lk_X10_letter_66 : Cond.fieldLink RX10 66 (TX10 6).1 (TX10 6).2.1 (TX10 6).2.2.1 ∈ wsX10_letter := List.mem_of_getElem? (i := 1) rfl
theorem lk_X10_letter_62 : Cond.fieldLink RX10 62 (TX10 5).1 (TX10 5).2.1 (TX10 5).2.2.1 ∈ wsX10_letter := List.mem_of_getElem? (i := 2) rfl
theorem lk_X10_letter_19 : Cond.fieldLink RX10 19 (TX10 4).1 (TX10 4).2.1 (TX10 4).2.2.1 ∈ wsX10_letter := List.mem_of_getElem? (i := 3) rfl
set_option maxHeartbeats 4000000 in
set_option maxRecDepth 100000 in
theorem c_X10_letter (h F Q ft B Bt a1 a2 a3 a4 a5 : Nat → Nat) (fr : Nat → Int32) (W M : Nat → Int64) (km le sp ro : Nat) (hft : ∀ i, ft i < 65536) (hsp : sp < 1000) (hle : le ≤ 200) : Ct l yX10_letter wsX10_letter (rmD (0)) D [(cI, .int), (cC, .char), (cJ, .long), (cG, .object "PushdownGameSolver$Game")] [.ref ((h 0))] [((h 0), .inr (6, [.ref ((h 1)), .ref ((h 2)), .ref ((h 3)), .int (nI km), .ref ((h 4)), .int (nI le), .int (nI sp), .ref ((h 5)), .ref ((h 6)), .int (nI ro), .ref ((h 7)), .ref ((h 8)), .ref ((h 9)), .ref ((h 10)), .ref ((h 11)), .ref ((h 12)), .ref ((h 13))])), ((h 1), .inl (cI, 99, .inl (sA F))), ((h 2), .inl (cI, 99, .inl fr)), ((h 3), .inl (cI, 594, .inl (kA Q))), ((h 4), .inl (cI, 200, .inl (fun zz => nI (ft zz)))), ((h 5), .inl (cI, 12, .inl (fun zz => nI (B zz)))), ((h 6), .inl (cI, 12, .inl (fun zz => nI (Bt zz)))), ((h 7), .inl (cJ, 16, .inr (.inl W))), ((h 8), .inl (cJ, 16, .inr (.inl M))), ((h 9), .inl (cI, 9, .inl (fun zz => nI (a1 zz)))), ((h 10), .inl (cI, 9, .inl (fun zz => nI (a2 zz)))), ((h 11), .inl (cI, 198, .inl (fun zz => nI (a3 zz)))), ((h 12), .inl (cI, 9, .inl (fun zz => nI (a4 zz)))), ((h 13), .inl (cI, 9, .inl (fA a5)))] (S := Unit) (fun _ => True) (fun _ => some (.int (nI (ltr ft le sp)))) (fun _ => [((h 0), .inr (6, [.ref ((h 1)), .ref ((h 2)), .ref ((h 3)), .int (nI km), .ref ((h 4)), .int (nI le), .int (nI (sp + 1)), .ref ((h 5)), .ref ((h 6)), .int (nI ro), .ref ((h 7)), .ref ((h 8)), .ref ((h 9)), .ref ((h 10)), .ref ((h 11)), .ref ((h 12)), .ref ((h 13))])), ((h 1), .inl (cI, 99, .inl (sA F))), ((h 2), .inl (cI, 99, .inl fr)), ((h 3), .inl (cI, 594, .inl (kA Q))), ((h 4), .inl (cI, 200, .inl (fun zz => nI (ft zz)))), ((h 5), .inl (cI, 12, .inl (fun zz => nI (B zz)))), ((h 6), .inl (cI, 12, .inl (fun zz => nI (Bt zz)))), ((h 7), .inl (cJ, 16, .inr (.inl W))), ((h 8), .inl (cJ, 16, .inr (.inl M))), ((h 9), .inl (cI, 9, .inl (fun zz => nI (a1 zz)))), ((h 10), .inl (cI, 9, .inl (fun zz => nI (a2 zz)))), ((h 11), .inl (cI, 198, .inl (fun zz => nI (a3 zz)))), ((h 12), .inl (cI, 9, .inl (fun zz => nI (a4 zz)))), ((h 13), .inl (cI, 9, .inl (fA a5)))]) := by
  refine Ct.of (lv := [(0, .ref ((h 0)))]) (by decide) rfl (Nat.le_of_ble_eq_true rfl) rfl ?_
  intro ε hL EE FF
  refine j_aload_n EE 0 dX10_letter_0 rfl rfl ?_
  refine j_get (T := TX10) EE iw_X10_letter_X10 0 rfl rfl 6 (by decide) lk_X10_letter_66 rfl dX10_letter_1 ?_
  refine j_aload_n EE 0 dX10_letter_4 rfl rfl ?_
  refine j_get (T := TX10) EE iw_X10_letter_X10 0 rfl rfl 5 (by decide) lk_X10_letter_62 rfl dX10_letter_5 ?_
  refine j_icmp_ge EE 23 dX10_letter_8 (by decide) (fun c8 => ?_) (fun c8 => ?_)
  · skip
    have n8 : le ≤ sp := (nI_leI (a := le) (b := sp) (by omega) (by omega)).mp c8
    refine j_iconst (v := nI 0) EE dX10_letter_23 (by decide) ?_
    refine j_istore_n EE [(1, _), (0, _)] dX10_letter_24 rfl (Nat.lt_of_lt_of_eq (by decide) hL.symm) rfl ?_
    refine j_aload_n EE 1 dX10_letter_25 rfl rfl ?_
    refine j_dup EE rfl dX10_letter_26 ?_
    refine j_get (T := TX10) EE iw_X10_letter_X10 0 rfl rfl 6 (by decide) lk_X10_letter_66 rfl dX10_letter_27 ?_
    refine j_iconst (v := nI 1) EE dX10_letter_30 (by decide) ?_
    refine j_iadd EE dX10_letter_31 ?_
    refine j_topE (nI_add sp 1) ?_
    refine j_put (T := TX10) (ws' := [((h 0), .inr (6, [.ref ((h 1)), .ref ((h 2)), .ref ((h 3)), .int (nI km), .ref ((h 4)), .int (nI le), .int (nI (sp + 1)), .ref ((h 5)), .ref ((h 6)), .int (nI ro), .ref ((h 7)), .ref ((h 8)), .ref ((h 9)), .ref ((h 10)), .ref ((h 11)), .ref ((h 12)), .ref ((h 13))])), ((h 1), .inl (cI, 99, .inl (sA F))), ((h 2), .inl (cI, 99, .inl fr)), ((h 3), .inl (cI, 594, .inl (kA Q))), ((h 4), .inl (cI, 200, .inl (fun zz => nI (ft zz)))), ((h 5), .inl (cI, 12, .inl (fun zz => nI (B zz)))), ((h 6), .inl (cI, 12, .inl (fun zz => nI (Bt zz)))), ((h 7), .inl (cJ, 16, .inr (.inl W))), ((h 8), .inl (cJ, 16, .inr (.inl M))), ((h 9), .inl (cI, 9, .inl (fun zz => nI (a1 zz)))), ((h 10), .inl (cI, 9, .inl (fun zz => nI (a2 zz)))), ((h 11), .inl (cI, 198, .inl (fun zz => nI (a3 zz)))), ((h 12), .inl (cI, 9, .inl (fun zz => nI (a4 zz)))), ((h 13), .inl (cI, 9, .inl (fA a5)))]) EE iw_X10_letter_X10 tyX10 tyX10_ok nmX10 0 rfl rfl 6 (by decide) lk_X10_letter_66 rfl rfl rfl (Nat.le_of_ble_eq_true rfl) rfl dX10_letter_32 ?_
    refine j_iload_n EE 0 dX10_letter_35 rfl rfl ?_
    exact j_iret EE FF dX10_letter_36 () trivial (by unfold ltr; first | rw [if_neg (by omega)] | rw [if_pos (by omega)]) rfl
  · skip
    have n8 : ¬ le ≤ sp := fun hq => c8 ((nI_leI (a := le) (b := sp) (by omega) (by omega)).mpr hq)
    refine j_aload_n EE 0 dX10_letter_11 rfl rfl ?_
    refine j_get (T := TX10) EE iw_X10_letter_X10 0 rfl rfl 4 (by decide) lk_X10_letter_19 rfl dX10_letter_12 ?_
    refine j_aload_n EE 0 dX10_letter_15 rfl rfl ?_
    refine j_get (T := TX10) EE iw_X10_letter_X10 0 rfl rfl 6 (by decide) lk_X10_letter_66 rfl dX10_letter_16 ?_
    refine j_iald EE 4 0 rfl rfl (vp_in_nI (n := sp) (by omega) (by decide)) dX10_letter_19 ?_
    refine j_topE (congrArg (fun zz => nI (ft zz)) (nI_clamp (n := sp) (by omega))) ?_
    refine j_topE (y := nI (ft sp)) rfl ?_
    refine j_goto EE 24 dX10_letter_20 (by decide) ?_
    refine j_istore_n EE [(1, _), (0, _)] dX10_letter_24 rfl (Nat.lt_of_lt_of_eq (by decide) hL.symm) rfl ?_
    refine j_aload_n EE 1 dX10_letter_25 rfl rfl ?_
    refine j_dup EE rfl dX10_letter_26 ?_
    refine j_get (T := TX10) EE iw_X10_letter_X10 0 rfl rfl 6 (by decide) lk_X10_letter_66 rfl dX10_letter_27 ?_
    refine j_iconst (v := nI 1) EE dX10_letter_30 (by decide) ?_
    refine j_iadd EE dX10_letter_31 ?_
    refine j_topE (nI_add sp 1) ?_
    refine j_put (T := TX10) (ws' := [((h 0), .inr (6, [.ref ((h 1)), .ref ((h 2)), .ref ((h 3)), .int (nI km), .ref ((h 4)), .int (nI le), .int (nI (sp + 1)), .ref ((h 5)), .ref ((h 6)), .int (nI ro), .ref ((h 7)), .ref ((h 8)), .ref ((h 9)), .ref ((h 10)), .ref ((h 11)), .ref ((h 12)), .ref ((h 13))])), ((h 1), .inl (cI, 99, .inl (sA F))), ((h 2), .inl (cI, 99, .inl fr)), ((h 3), .inl (cI, 594, .inl (kA Q))), ((h 4), .inl (cI, 200, .inl (fun zz => nI (ft zz)))), ((h 5), .inl (cI, 12, .inl (fun zz => nI (B zz)))), ((h 6), .inl (cI, 12, .inl (fun zz => nI (Bt zz)))), ((h 7), .inl (cJ, 16, .inr (.inl W))), ((h 8), .inl (cJ, 16, .inr (.inl M))), ((h 9), .inl (cI, 9, .inl (fun zz => nI (a1 zz)))), ((h 10), .inl (cI, 9, .inl (fun zz => nI (a2 zz)))), ((h 11), .inl (cI, 198, .inl (fun zz => nI (a3 zz)))), ((h 12), .inl (cI, 9, .inl (fun zz => nI (a4 zz)))), ((h 13), .inl (cI, 9, .inl (fA a5)))]) EE iw_X10_letter_X10 tyX10 tyX10_ok nmX10 0 rfl rfl 6 (by decide) lk_X10_letter_66 rfl rfl rfl (Nat.le_of_ble_eq_true rfl) rfl dX10_letter_32 ?_
    refine j_iload_n EE 0 dX10_letter_35 rfl rfl ?_
    exact j_iret EE FF dX10_letter_36 () trivial (by unfold ltr; first | rw [if_neg (by omega)] | rw [if_pos (by omega)]) rfl

theorem hd_X10_letter : yX10_letter.cls ≠ "java/lang/invoke/MethodHandle" ∧ yX10_letter.cls ≠ "java/lang/invoke/VarHandle" ∧ (parseMethodDescriptor yX10_letter.desc).map (fun d => d.parameters.length) = some 0 := by decide +kernel
set_option maxHeartbeats 4000000 in
set_option maxRecDepth 100000 in
theorem c_X10_figure (h F Q ft B Bt a1 a2 a3 a4 a5 : Nat → Nat) (fr : Nat → Int32) (W M : Nat → Int64) (km le sp ro : Nat) (b : Nat) (hft : ∀ i, ft i < 65536) (hsp : sp < 1000) (hle : le ≤ 200) (hb : b < 100) : Ct l yX10_figure wsX10_figure (rmD (1)) D [(cI, .int), (cC, .char), (cJ, .long), (cG, .object "PushdownGameSolver$Game")] [.ref ((h 0)), .int (nI b)] [((h 0), .inr (6, [.ref ((h 1)), .ref ((h 2)), .ref ((h 3)), .int (nI km), .ref ((h 4)), .int (nI le), .int (nI sp), .ref ((h 5)), .ref ((h 6)), .int (nI ro), .ref ((h 7)), .ref ((h 8)), .ref ((h 9)), .ref ((h 10)), .ref ((h 11)), .ref ((h 12)), .ref ((h 13))])), ((h 1), .inl (cI, 99, .inl (sA F))), ((h 2), .inl (cI, 99, .inl fr)), ((h 3), .inl (cI, 594, .inl (kA Q))), ((h 4), .inl (cI, 200, .inl (fun zz => nI (ft zz)))), ((h 5), .inl (cI, 12, .inl (fun zz => nI (B zz)))), ((h 6), .inl (cI, 12, .inl (fun zz => nI (Bt zz)))), ((h 7), .inl (cJ, 16, .inr (.inl W))), ((h 8), .inl (cJ, 16, .inr (.inl M))), ((h 9), .inl (cI, 9, .inl (fun zz => nI (a1 zz)))), ((h 10), .inl (cI, 9, .inl (fun zz => nI (a2 zz)))), ((h 11), .inl (cI, 198, .inl (fun zz => nI (a3 zz)))), ((h 12), .inl (cI, 9, .inl (fun zz => nI (a4 zz)))), ((h 13), .inl (cI, 9, .inl (fA a5)))] (S := Unit) (fun _ => True) (fun _ => some (.int (nI (fig (ltr ft le sp) b) - nI 1))) (fun _ => [((h 0), .inr (6, [.ref ((h 1)), .ref ((h 2)), .ref ((h 3)), .int (nI km), .ref ((h 4)), .int (nI le), .int (nI (sp + 1)), .ref ((h 5)), .ref ((h 6)), .int (nI ro), .ref ((h 7)), .ref ((h 8)), .ref ((h 9)), .ref ((h 10)), .ref ((h 11)), .ref ((h 12)), .ref ((h 13))])), ((h 1), .inl (cI, 99, .inl (sA F))), ((h 2), .inl (cI, 99, .inl fr)), ((h 3), .inl (cI, 594, .inl (kA Q))), ((h 4), .inl (cI, 200, .inl (fun zz => nI (ft zz)))), ((h 5), .inl (cI, 12, .inl (fun zz => nI (B zz)))), ((h 6), .inl (cI, 12, .inl (fun zz => nI (Bt zz)))), ((h 7), .inl (cJ, 16, .inr (.inl W))), ((h 8), .inl (cJ, 16, .inr (.inl M))), ((h 9), .inl (cI, 9, .inl (fun zz => nI (a1 zz)))), ((h 10), .inl (cI, 9, .inl (fun zz => nI (a2 zz)))), ((h 11), .inl (cI, 198, .inl (fun zz => nI (a3 zz)))), ((h 12), .inl (cI, 9, .inl (fun zz => nI (a4 zz)))), ((h 13), .inl (cI, 9, .inl (fA a5)))]) := by
  refine Ct.of (lv := [(0, .ref ((h 0))), (1, .int (nI b))]) (by decide) rfl (Nat.le_of_ble_eq_true rfl) rfl ?_
  intro ε hL EE FF
  have hlt := ltr_lt (le := le) (sp := sp) hft
  refine j_aload_n EE 0 dX10_figure_0 rfl rfl ?_
  refine j_V2 (n9 := 14) EE (c_X10_letter h F Q ft B Bt a1 a2 a3 a4 a5 fr W M km le sp ro hft (by omega) (by omega)) gX10_figure_X10_letter ⟨rfl, hd_X10_letter⟩ rfl ⟨rfl, rfl⟩ ⟨by decide, by decide⟩ rfl [0, 1, 2, 3, 4, 5, 6, 7, 8, 9, 10, 11, 12, 13] rfl [] [((h 0), .inr (6, [.ref ((h 1)), .ref ((h 2)), .ref ((h 3)), .int (nI km), .ref ((h 4)), .int (nI le), .int (nI (sp + 1)), .ref ((h 5)), .ref ((h 6)), .int (nI ro), .ref ((h 7)), .ref ((h 8)), .ref ((h 9)), .ref ((h 10)), .ref ((h 11)), .ref ((h 12)), .ref ((h 13))])), ((h 1), .inl (cI, 99, .inl (sA F))), ((h 2), .inl (cI, 99, .inl fr)), ((h 3), .inl (cI, 594, .inl (kA Q))), ((h 4), .inl (cI, 200, .inl (fun zz => nI (ft zz)))), ((h 5), .inl (cI, 12, .inl (fun zz => nI (B zz)))), ((h 6), .inl (cI, 12, .inl (fun zz => nI (Bt zz)))), ((h 7), .inl (cJ, 16, .inr (.inl W))), ((h 8), .inl (cJ, 16, .inr (.inl M))), ((h 9), .inl (cI, 9, .inl (fun zz => nI (a1 zz)))), ((h 10), .inl (cI, 9, .inl (fun zz => nI (a2 zz)))), ((h 11), .inl (cI, 198, .inl (fun zz => nI (a3 zz)))), ((h 12), .inl (cI, 9, .inl (fun zz => nI (a4 zz)))), ((h 13), .inl (cI, 9, .inl (fA a5)))] (fun _ => rfl) [] [(h 0), (h 1), (h 2), (h 3), (h 4), (h 5), (h 6), (h 7), (h 8), (h 9), (h 10), (h 11), (h 12), (h 13)] rfl rfl rfl rfl rfl (by decide) (by decide) 0 rfl rfl rfl (Nat.le_of_ble_eq_true rfl) dX10_figure_1 (fun u_1 h_1 => ?_) rfl
  show J l _ D ε _ _ _ (.int (nI (ltr ft le sp)) :: _)
  refine j_bipush (v := nI 48) EE dX10_figure_4 (by decide) ?_
  refine j_isub EE dX10_figure_6 ?_
  refine j_topE (y := nI (ltr ft le sp) - nI 48) rfl ?_
  refine j_istore_n EE [(2, _), (0, _), (1, _)] dX10_figure_7 rfl (Nat.lt_of_lt_of_eq (by decide) hL.symm) rfl ?_
  refine j_iload_n EE 0 dX10_figure_8 rfl rfl ?_
  refine j_i2l EE dX10_figure_9 ?_
  refine j_lconst (v := lN 0) EE dX10_figure_10 (by decide) ?_
  refine j_iload_n EE 2 dX10_figure_11 rfl rfl ?_
  refine j_iconst (v := nI 1) EE dX10_figure_12 (by decide) ?_
  refine j_isub EE dX10_figure_13 ?_
  refine j_topE (y := nI b - nI 1) rfl ?_
  refine j_i2l EE dX10_figure_14 ?_
  refine j_S2 (n9 := 14) EE (c_X10_in ((nI (ltr ft le sp) - nI 48).toInt64) (lN 0) ((nI b - nI 1).toInt64)) gX10_figure_X10_in hd_X10_in rfl ⟨rfl, rfl⟩ ⟨by decide, by decide⟩ rfl [] rfl [0, 1, 2, 3, 4, 5, 6, 7, 8, 9, 10, 11, 12, 13] [((h 0), .inr (6, [.ref ((h 1)), .ref ((h 2)), .ref ((h 3)), .int (nI km), .ref ((h 4)), .int (nI le), .int (nI (sp + 1)), .ref ((h 5)), .ref ((h 6)), .int (nI ro), .ref ((h 7)), .ref ((h 8)), .ref ((h 9)), .ref ((h 10)), .ref ((h 11)), .ref ((h 12)), .ref ((h 13))])), ((h 1), .inl (cI, 99, .inl (sA F))), ((h 2), .inl (cI, 99, .inl fr)), ((h 3), .inl (cI, 594, .inl (kA Q))), ((h 4), .inl (cI, 200, .inl (fun zz => nI (ft zz)))), ((h 5), .inl (cI, 12, .inl (fun zz => nI (B zz)))), ((h 6), .inl (cI, 12, .inl (fun zz => nI (Bt zz)))), ((h 7), .inl (cJ, 16, .inr (.inl W))), ((h 8), .inl (cJ, 16, .inr (.inl M))), ((h 9), .inl (cI, 9, .inl (fun zz => nI (a1 zz)))), ((h 10), .inl (cI, 9, .inl (fun zz => nI (a2 zz)))), ((h 11), .inl (cI, 198, .inl (fun zz => nI (a3 zz)))), ((h 12), .inl (cI, 9, .inl (fun zz => nI (a4 zz)))), ((h 13), .inl (cI, 9, .inl (fA a5)))] (fun _ => rfl) [((h 0), .inr (6, [.ref ((h 1)), .ref ((h 2)), .ref ((h 3)), .int (nI km), .ref ((h 4)), .int (nI le), .int (nI (sp + 1)), .ref ((h 5)), .ref ((h 6)), .int (nI ro), .ref ((h 7)), .ref ((h 8)), .ref ((h 9)), .ref ((h 10)), .ref ((h 11)), .ref ((h 12)), .ref ((h 13))])), ((h 1), .inl (cI, 99, .inl (sA F))), ((h 2), .inl (cI, 99, .inl fr)), ((h 3), .inl (cI, 594, .inl (kA Q))), ((h 4), .inl (cI, 200, .inl (fun zz => nI (ft zz)))), ((h 5), .inl (cI, 12, .inl (fun zz => nI (B zz)))), ((h 6), .inl (cI, 12, .inl (fun zz => nI (Bt zz)))), ((h 7), .inl (cJ, 16, .inr (.inl W))), ((h 8), .inl (cJ, 16, .inr (.inl M))), ((h 9), .inl (cI, 9, .inl (fun zz => nI (a1 zz)))), ((h 10), .inl (cI, 9, .inl (fun zz => nI (a2 zz)))), ((h 11), .inl (cI, 198, .inl (fun zz => nI (a3 zz)))), ((h 12), .inl (cI, 9, .inl (fun zz => nI (a4 zz)))), ((h 13), .inl (cI, 9, .inl (fA a5)))] [(h 0), (h 1), (h 2), (h 3), (h 4), (h 5), (h 6), (h 7), (h 8), (h 9), (h 10), (h 11), (h 12), (h 13)] rfl rfl rfl rfl rfl (by decide) (by decide) rfl (Nat.le_of_ble_eq_true rfl) dX10_figure_15 (fun u_15 h_15 => ?_) rfl
  show J l _ D ε _ _ _ (.int (if lN 0 ≤ (nI (ltr ft le sp) - nI 48).toInt64 ∧ (nI (ltr ft le sp) - nI 48).toInt64 ≤ (nI b - nI 1).toInt64 then nI 1 else nI 0) :: _)
  refine j_topE (y := nI (b2n (decide (48 ≤ ltr ft le sp ∧ ltr ft le sp < 48 + b)))) (by rw [in_inR _ (by omega), fig_in hlt hb]) ?_
  show J l _ D ε _ _ _ (.int (nI (b2n (decide (48 ≤ ltr ft le sp ∧ ltr ft le sp < 48 + b)))) :: _)
  refine j_if_eq EE 25 dX10_figure_18 (by decide) (fun c18 => ?_) (fun c18 => ?_)
  · skip
    have n18 : (b2n (decide (48 ≤ ltr ft le sp ∧ ltr ft le sp < 48 + b))) = 0 := (nI_eq (a := (b2n (decide (48 ≤ ltr ft le sp ∧ ltr ft le sp < 48 + b)))) (b := 0) (by have := b2n_lt (decide (48 ≤ ltr ft le sp ∧ ltr ft le sp < 48 + b)); omega) (by have := b2n_lt (decide (48 ≤ ltr ft le sp ∧ ltr ft le sp < 48 + b)); omega)).mp c18
    refine j_iconst (v := (-1)) EE dX10_figure_25 (by decide) ?_
    exact j_iret EE FF dX10_figure_26 () trivial (by unfold fig; first | (rw [if_pos (b2d_1 n18), nI_p1]; exact congrArg (fun z => some (Value.int z)) (pk_sub (b2d_1 n18).1).symm) | (rw [if_neg (b2d_0 n18)]; decide)) rfl
  · skip
    have n18 : (b2n (decide (48 ≤ ltr ft le sp ∧ ltr ft le sp < 48 + b))) ≠ 0 := fun hq => c18 ((nI_eq (a := (b2n (decide (48 ≤ ltr ft le sp ∧ ltr ft le sp < 48 + b)))) (b := 0) (by have := b2n_lt (decide (48 ≤ ltr ft le sp ∧ ltr ft le sp < 48 + b)); omega) (by have := b2n_lt (decide (48 ≤ ltr ft le sp ∧ ltr ft le sp < 48 + b)); omega)).mpr hq)
    refine j_iload_n EE 0 dX10_figure_21 rfl rfl ?_
    refine j_goto EE 26 dX10_figure_22 (by decide) ?_
    exact j_iret EE FF dX10_figure_26 () trivial (by unfold fig; first | (rw [if_pos (b2d_1 n18), nI_p1]; exact congrArg (fun z => some (Value.int z)) (pk_sub (b2d_1 n18).1).symm) | (rw [if_neg (b2d_0 n18)]; decide)) rfl

end G_47_mod8
