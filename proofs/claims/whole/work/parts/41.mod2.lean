section G_41_mod2
variable {l : Launch} {D : va_G} {cI cC cJ cG : ClassId}

def shQ (Q : Nat → Nat) (k : Nat) : Nat → Nat := fun i => if i < k then Q (99 + i) else Q i
theorem shQ_0 (Q : Nat → Nat) : shQ Q 0 = Q := by funext i; unfold shQ; rw [if_neg (by omega)]
theorem shQ_s (Q : Nat → Nat) (k : Nat) : updN (shQ Q k) k (shQ Q k (99 + k)) = shQ Q (k + 1) := by
  funext i
  unfold updN shQ
  by_cases h : i = k
  · subst h
    rw [if_pos rfl, if_neg (by omega), if_pos (by omega)]
  · rw [if_neg h]
    by_cases h2 : i < k
    · rw [if_pos h2, if_pos (by omega)]
    · rw [if_neg h2, if_neg (by omega)]
def cpQ (Q F : Nat → Nat) (m k : Nat) : Nat → Nat := fun i => if 99 * m ≤ i ∧ i < 99 * m + k then F (i - 99 * m) else Q i
theorem cpQ_0 (Q F : Nat → Nat) (m : Nat) : cpQ Q F m 0 = Q := by funext i; unfold cpQ; rw [if_neg (by omega)]
theorem cpQ_s (Q F : Nat → Nat) (m k : Nat) : updN (cpQ Q F m k) (99 * m + k) (F k) = cpQ Q F m (k + 1) := by
  funext i
  unfold updN cpQ
  by_cases h : i = 99 * m + k
  · subst h
    rw [if_pos rfl, if_pos (by omega), show 99 * m + k - 99 * m = k by omega]
  · rw [if_neg h]
    by_cases h2 : 99 * m ≤ i ∧ i < 99 * m + k
    · rw [if_pos h2, if_pos (by omega)]
    · rw [if_neg h2, if_neg (by omega)]
def kpQ (km : Nat) (Q F : Nat → Nat) : Nat → Nat := if km = 6 then cpQ (shQ Q 495) F 5 99 else cpQ Q F km 99
def unF (F Q : Nat → Nat) (m k : Nat) : Nat → Nat := fun i => if i < k then Q (99 * m + i) else F i
theorem unF_0 (F Q : Nat → Nat) (m : Nat) : unF F Q m 0 = F := by funext i; unfold unF; rw [if_neg (by omega)]
theorem unF_s (F Q : Nat → Nat) (m k : Nat) : updN (unF F Q m k) k (Q (99 * m + k)) = unF F Q m (k + 1) := by
  funext i
  unfold updN unF
  by_cases h : i = k
  · subst h
    rw [if_pos rfl, if_pos (by omega)]
  · rw [if_neg h]
    by_cases h2 : i < k
    · rw [if_pos h2, if_pos (by omega)]
    · rw [if_neg h2, if_neg (by omega)]
def rmF (F : Nat → Nat) (j k : Nat) : Nat → Nat := fun i => if 5 + 5 * j ≤ i ∧ i < k then F (i + 5) else if i = 4 then F 4 - 1 else F i
theorem rmF_0 (F : Nat → Nat) (j : Nat) : updN F 4 (F 4 - 1) = rmF F j (5 + 5 * j) := by
  funext i
  unfold updN rmF
  rw [if_neg (show ¬ (5 + 5 * j ≤ i ∧ i < 5 + 5 * j) by omega)]
theorem rmF_s (F : Nat → Nat) (j k : Nat) (hk : 5 + 5 * j ≤ k) : updN (rmF F j k) k (rmF F j k (k + 5)) = rmF F j (k + 1) := by
  funext i
  unfold updN rmF
  by_cases h : i = k
  · subst h
    rw [if_pos rfl, if_neg (by omega), if_neg (by omega), if_pos (by omega)]
  · rw [if_neg h]
    by_cases h2 : 5 + 5 * j ≤ i ∧ i < k
    · rw [if_pos h2, if_pos (by omega)]
    · rw [if_neg h2, if_neg (show ¬ (5 + 5 * j ≤ i ∧ i < k + 1) by omega)]
theorem upd_ss {F : Nat → Nat} {k : Nat} (h1 : 5 ≤ k) (h2 : k < 80) : upd (sA F) k (sA F (k + 5)) = sA (updN F k (F (k + 5))) := by
  funext j
  by_cases hj : j = k
  · subst hj
    rw [pk_us]
    by_cases h4 : 3 ≤ j % 5
    · rw [sA_w (by omega), sA_w (by omega), updN_s]
    · rw [sA_n (by omega), sA_n (by omega), updN_s]
  · rw [pk_un hj]
    unfold sA
    rw [updN_n _ _ _ hj]
theorem rmF_4 (F : Nat → Nat) (j k : Nat) : rmF F j k 4 = F 4 - 1 := by
  unfold rmF
  rw [if_neg (by omega), if_pos rfl]
theorem in_01 (x : Int32) : (if lN 0 ≤ x.toInt64 ∧ x.toInt64 ≤ lN 1 then nI 1 else nI 0) = nI (b2n (inR x 2)) := in_inR (n := 2) x (by decide)
theorem b_m1w {u : Nat} (hu : u < 65536) : nI u - nI 1 = (-1) ↔ u = 0 := by
  constructor
  · intro h
    have h1 : (nI u - nI 1).toInt = (-1 : Int32).toInt := congrArg _ h
    rw [pk_sub_toInt (by omega) (by decide)] at h1
    have h2 : ((-1 : Int32).toInt) = (-1 : Int) := by decide
    rw [h2] at h1
    omega
  · intro h; subst h; decide
def plM (F : Nat → Nat) (r : Nat) : Prop := F (5 + 5 * r) = F 85 ∧ 0 < F 86 ∧ F (5 + 5 * r + 1) = F (87 + F 86 - 1)
theorem plM_d (F : Nat → Nat) (r : Nat) : plM F r ∨ ¬ plM F r := Classical.em _
def plB (F : Nat → Nat) (r : Nat) : Bool := decide (F (5 + 5 * r) = F 85 ∧ 0 < F 86 ∧ F (5 + 5 * r + 1) = F (87 + F 86 - 1))
def plN (F : Nat → Nat) : Nat → Nat
  | 0 => 0
  | r + 1 => plN F r + b2n (plB F r)
theorem plN_le (F : Nat → Nat) : ∀ r, plN F r ≤ r
  | 0 => Nat.le_refl 0
  | r + 1 => by
    have h1 := plN_le F r
    have h2 := b2n_lt (plB F r)
    unfold plN
    omega
theorem b_sets : ∀ m : Nat, m < 16 → ∀ i : Nat, i < 4 → ∀ b : Nat, b < 2 → (nI m &&& ((nI 1 <<< (nI i &&& 31)) ^^^ (-1))) ||| (nI b <<< (nI i &&& 31)) = nI (wbit m i b) := by decide +kernel

theorem iw_X10_keeps_X10 : ∀ w ∈ wsX100, w ∈ wsX10_keeps := fun _ h => List.mem_cons_of_mem _ (List.mem_append_right _ h)
theorem lk_X10_keeps_92 : Cond.fieldLink RX10 92 (TX10 3).1 (TX10 3).2.1 (TX10 3).2.2.1 ∈ wsX10_keeps := List.mem_of_getElem? (i := 1) rfl
theorem lk_X10_keeps_16 : Cond.fieldLink RX10 16 (TX10 2).1 (TX10 2).2.1 (TX10 2).2.2.1 ∈ wsX10_keeps := List.mem_of_getElem? (i := 2) rfl
theorem lk_X10_keeps_7 : Cond.fieldLink RX10 7 (TX10 0).1 (TX10 0).2.1 (TX10 0).2.2.1 ∈ wsX10_keeps := List.mem_of_getElem? (i := 3) rfl
set_option maxHeartbeats 4000000 in
set_option maxRecDepth 100000 in
theorem c_X10_keeps (h F Q ft B Bt a1 a2 a3 a4 a5 : Nat → Nat) (fr : Nat → Int32) (W M : Nat → Int64) (km le sp ro : Nat) (hkm : km < 6) : Ct l yX10_keeps wsX10_keeps (rmD (0)) D [(cI, .int), (cC, .char), (cJ, .long), (cG, .object "PushdownGameSolver$Game")] [.ref ((h 0))] [((h 0), .inr (6, [.ref ((h 1)), .ref ((h 2)), .ref ((h 3)), .int (nI km), .ref ((h 4)), .int (nI le), .int (nI sp), .ref ((h 5)), .ref ((h 6)), .int (nI ro), .ref ((h 7)), .ref ((h 8)), .ref ((h 9)), .ref ((h 10)), .ref ((h 11)), .ref ((h 12)), .ref ((h 13))])), ((h 1), .inl (cI, 99, .inl (sA F))), ((h 2), .inl (cI, 99, .inl fr)), ((h 3), .inl (cI, 594, .inl (kA Q))), ((h 4), .inl (cI, 200, .inl (fun zz => nI (ft zz)))), ((h 5), .inl (cI, 12, .inl (fun zz => nI (B zz)))), ((h 6), .inl (cI, 12, .inl (fun zz => nI (Bt zz)))), ((h 7), .inl (cJ, 16, .inr (.inl W))), ((h 8), .inl (cJ, 16, .inr (.inl M))), ((h 9), .inl (cI, 9, .inl (fun zz => nI (a1 zz)))), ((h 10), .inl (cI, 9, .inl (fun zz => nI (a2 zz)))), ((h 11), .inl (cI, 198, .inl (fun zz => nI (a3 zz)))), ((h 12), .inl (cI, 9, .inl (fun zz => nI (a4 zz)))), ((h 13), .inl (cI, 9, .inl (fA a5)))] (S := Unit) (fun _ => True) (fun _ => none) (fun _ => [((h 0), .inr (6, [.ref ((h 1)), .ref ((h 2)), .ref ((h 3)), .int (nI (km + 1)), .ref ((h 4)), .int (nI le), .int (nI sp), .ref ((h 5)), .ref ((h 6)), .int (nI ro), .ref ((h 7)), .ref ((h 8)), .ref ((h 9)), .ref ((h 10)), .ref ((h 11)), .ref ((h 12)), .ref ((h 13))])), ((h 1), .inl (cI, 99, .inl (sA F))), ((h 2), .inl (cI, 99, .inl fr)), ((h 3), .inl (cI, 594, .inl (kA (cpQ Q F km 99)))), ((h 4), .inl (cI, 200, .inl (fun zz => nI (ft zz)))), ((h 5), .inl (cI, 12, .inl (fun zz => nI (B zz)))), ((h 6), .inl (cI, 12, .inl (fun zz => nI (Bt zz)))), ((h 7), .inl (cJ, 16, .inr (.inl W))), ((h 8), .inl (cJ, 16, .inr (.inl M))), ((h 9), .inl (cI, 9, .inl (fun zz => nI (a1 zz)))), ((h 10), .inl (cI, 9, .inl (fun zz => nI (a2 zz)))), ((h 11), .inl (cI, 198, .inl (fun zz => nI (a3 zz)))), ((h 12), .inl (cI, 9, .inl (fun zz => nI (a4 zz)))), ((h 13), .inl (cI, 9, .inl (fA a5)))]) := by
  refine Ct.of (lv := [(0, .ref ((h 0)))]) (by decide) rfl (Nat.le_of_ble_eq_true rfl) rfl ?_
  intro ε hL EE FF
  have Lp_51 : ∀ (nf : Nat), ∀ (k : Nat), 99 - k < nf → (k ≤ 99) → J l (rmD (0)) D ε [((h 0), .inr (6, [.ref ((h 1)), .ref ((h 2)), .ref ((h 3)), .int (nI km), .ref ((h 4)), .int (nI le), .int (nI sp), .ref ((h 5)), .ref ((h 6)), .int (nI ro), .ref ((h 7)), .ref ((h 8)), .ref ((h 9)), .ref ((h 10)), .ref ((h 11)), .ref ((h 12)), .ref ((h 13))])), ((h 1), .inl (cI, 99, .inl (sA F))), ((h 2), .inl (cI, 99, .inl fr)), ((h 3), .inl (cI, 594, .inl (kA (cpQ Q F km k)))), ((h 4), .inl (cI, 200, .inl (fun zz => nI (ft zz)))), ((h 5), .inl (cI, 12, .inl (fun zz => nI (B zz)))), ((h 6), .inl (cI, 12, .inl (fun zz => nI (Bt zz)))), ((h 7), .inl (cJ, 16, .inr (.inl W))), ((h 8), .inl (cJ, 16, .inr (.inl M))), ((h 9), .inl (cI, 9, .inl (fun zz => nI (a1 zz)))), ((h 10), .inl (cI, 9, .inl (fun zz => nI (a2 zz)))), ((h 11), .inl (cI, 198, .inl (fun zz => nI (a3 zz)))), ((h 12), .inl (cI, 9, .inl (fun zz => nI (a4 zz)))), ((h 13), .inl (cI, 9, .inl (fA a5)))] 51 [(1, .int (nI k)), (0, .ref ((h 0)))] [] := by
    intro nf
    induction nf with
    | zero => intro k hm; exact absurd hm (Nat.not_lt_zero _)
    | succ nf ihp_51 =>
      intro k hm51 hk
      refine j_iload_n EE 0 dX10_keeps_51 rfl rfl ?_
      refine j_bipush (v := nI 99) EE dX10_keeps_52 (by decide) ?_
      refine j_icmp_ge EE 83 dX10_keeps_54 (by decide) (fun c54 => ?_) (fun c54 => ?_)
      · skip
        have n54 : 99 ≤ k := (nI_leI (a := 99) (b := k) (by omega) (by omega)).mp c54
        refine j_aload_n EE 1 dX10_keeps_83 rfl rfl ?_
        refine j_dup EE rfl dX10_keeps_84 ?_
        refine j_get (T := TX10) EE iw_X10_keeps_X10 0 rfl rfl 3 (by decide) lk_X10_keeps_92 rfl dX10_keeps_85 ?_
        refine j_iconst (v := nI 1) EE dX10_keeps_88 (by decide) ?_
        refine j_iadd EE dX10_keeps_89 ?_
        refine j_topE (nI_add km 1) ?_
        refine j_put (T := TX10) (ws' := [((h 0), .inr (6, [.ref ((h 1)), .ref ((h 2)), .ref ((h 3)), .int (nI (km + 1)), .ref ((h 4)), .int (nI le), .int (nI sp), .ref ((h 5)), .ref ((h 6)), .int (nI ro), .ref ((h 7)), .ref ((h 8)), .ref ((h 9)), .ref ((h 10)), .ref ((h 11)), .ref ((h 12)), .ref ((h 13))])), ((h 1), .inl (cI, 99, .inl (sA F))), ((h 2), .inl (cI, 99, .inl fr)), ((h 3), .inl (cI, 594, .inl (kA (cpQ Q F km k)))), ((h 4), .inl (cI, 200, .inl (fun zz => nI (ft zz)))), ((h 5), .inl (cI, 12, .inl (fun zz => nI (B zz)))), ((h 6), .inl (cI, 12, .inl (fun zz => nI (Bt zz)))), ((h 7), .inl (cJ, 16, .inr (.inl W))), ((h 8), .inl (cJ, 16, .inr (.inl M))), ((h 9), .inl (cI, 9, .inl (fun zz => nI (a1 zz)))), ((h 10), .inl (cI, 9, .inl (fun zz => nI (a2 zz)))), ((h 11), .inl (cI, 198, .inl (fun zz => nI (a3 zz)))), ((h 12), .inl (cI, 9, .inl (fun zz => nI (a4 zz)))), ((h 13), .inl (cI, 9, .inl (fA a5)))]) EE iw_X10_keeps_X10 tyX10 tyX10_ok nmX10 0 rfl rfl 3 (by decide) lk_X10_keeps_92 rfl rfl rfl (Nat.le_of_ble_eq_true rfl) rfl dX10_keeps_90 ?_
        exact j_vret EE FF dX10_keeps_93 () trivial rfl (by rw [show k = 99 by omega])
      · skip
        have n54 : ¬ 99 ≤ k := fun hq => c54 ((nI_leI (a := 99) (b := k) (by omega) (by omega)).mpr hq)
        refine j_aload_n EE 1 dX10_keeps_57 rfl rfl ?_
        refine j_get (T := TX10) EE iw_X10_keeps_X10 0 rfl rfl 2 (by decide) lk_X10_keeps_16 rfl dX10_keeps_58 ?_
        refine j_bipush (v := nI 99) EE dX10_keeps_61 (by decide) ?_
        refine j_aload_n EE 1 dX10_keeps_63 rfl rfl ?_
        refine j_get (T := TX10) EE iw_X10_keeps_X10 0 rfl rfl 3 (by decide) lk_X10_keeps_92 rfl dX10_keeps_64 ?_
        refine j_imul EE dX10_keeps_67 ?_
        refine j_topE (pk_mul 99 km) ?_
        refine j_iload_n EE 0 dX10_keeps_68 rfl rfl ?_
        refine j_iadd EE dX10_keeps_69 ?_
        refine j_topE (nI_add (99 * km) k) ?_
        refine j_aload_n EE 1 dX10_keeps_70 rfl rfl ?_
        refine j_get (T := TX10) EE iw_X10_keeps_X10 0 rfl rfl 0 (by decide) lk_X10_keeps_7 rfl dX10_keeps_71 ?_
        refine j_iload_n EE 0 dX10_keeps_74 rfl rfl ?_
        refine j_iald EE 1 0 rfl rfl (vp_in_nI (n := k) (by omega) (by decide)) dX10_keeps_75 ?_
        refine j_topE (congrArg (sA F) (nI_clamp (n := k) (by omega))) ?_
        refine j_iast (ws' := [((h 0), .inr (6, [.ref ((h 1)), .ref ((h 2)), .ref ((h 3)), .int (nI km), .ref ((h 4)), .int (nI le), .int (nI sp), .ref ((h 5)), .ref ((h 6)), .int (nI ro), .ref ((h 7)), .ref ((h 8)), .ref ((h 9)), .ref ((h 10)), .ref ((h 11)), .ref ((h 12)), .ref ((h 13))])), ((h 1), .inl (cI, 99, .inl (sA F))), ((h 2), .inl (cI, 99, .inl fr)), ((h 3), .inl (cI, 594, .inl (kA (cpQ Q F km (k + 1))))), ((h 4), .inl (cI, 200, .inl (fun zz => nI (ft zz)))), ((h 5), .inl (cI, 12, .inl (fun zz => nI (B zz)))), ((h 6), .inl (cI, 12, .inl (fun zz => nI (Bt zz)))), ((h 7), .inl (cJ, 16, .inr (.inl W))), ((h 8), .inl (cJ, 16, .inr (.inl M))), ((h 9), .inl (cI, 9, .inl (fun zz => nI (a1 zz)))), ((h 10), .inl (cI, 9, .inl (fun zz => nI (a2 zz)))), ((h 11), .inl (cI, 198, .inl (fun zz => nI (a3 zz)))), ((h 12), .inl (cI, 9, .inl (fun zz => nI (a4 zz)))), ((h 13), .inl (cI, 9, .inl (fA a5)))]) EE 3 0 rfl rfl (vp_in_nI (n := (99 * km) + k) (by omega) (by decide)) (by rw [nI_clamp (by omega), upd_kA (by omega), cpQ_s]; rfl) dX10_keeps_76 ?_
        refine j_iinc (v := nI (k + 1)) EE 0 [(1, .int (nI (k + 1))), (0, _)] dX10_keeps_77 rfl (nI_1 k) (Nat.lt_of_lt_of_eq (by decide) hL.symm) rfl ?_
        refine j_goto EE 51 dX10_keeps_80 (by decide) ?_
        exact ihp_51 (k + 1) (by omega) (by omega)
  refine j_aload_n EE 0 dX10_keeps_0 rfl rfl ?_
  refine j_get (T := TX10) EE iw_X10_keeps_X10 0 rfl rfl 3 (by decide) lk_X10_keeps_92 rfl dX10_keeps_1 ?_
  refine j_bipush (v := nI 6) EE dX10_keeps_4 (by decide) ?_
  refine j_icmp_ne EE 49 dX10_keeps_6 (by decide) (fun c6 => ?_) (fun c6 => absurd ((nI_eq (a := km) (b := 6) (by omega) (by omega)).mp c6) (by omega))
  have n6 : km ≠ 6 := fun hq => c6 ((nI_eq (a := km) (b := 6) (by omega) (by omega)).mpr hq)
  refine j_iconst (v := nI 0) EE dX10_keeps_49 (by decide) ?_
  refine j_istore_n EE [(1, _), (0, _)] dX10_keeps_50 rfl (Nat.lt_of_lt_of_eq (by decide) hL.symm) rfl ?_
  rw [← cpQ_0 Q F km]
  exact Lp_51 _ 0 (Nat.lt_succ_self _) (by omega)

set_option maxHeartbeats 4000000 in
set_option maxRecDepth 100000 in
theorem c_X10_keepsF (h F Q ft B Bt a1 a2 a3 a4 a5 : Nat → Nat) (fr : Nat → Int32) (W M : Nat → Int64) (km le sp ro : Nat) : Ct l yX10_keeps wsX10_keeps (rmD (0)) D [(cI, .int), (cC, .char), (cJ, .long), (cG, .object "PushdownGameSolver$Game")] [.ref ((h 0))] [((h 0), .inr (6, [.ref ((h 1)), .ref ((h 2)), .ref ((h 3)), .int (nI 6), .ref ((h 4)), .int (nI le), .int (nI sp), .ref ((h 5)), .ref ((h 6)), .int (nI ro), .ref ((h 7)), .ref ((h 8)), .ref ((h 9)), .ref ((h 10)), .ref ((h 11)), .ref ((h 12)), .ref ((h 13))])), ((h 1), .inl (cI, 99, .inl (sA F))), ((h 2), .inl (cI, 99, .inl fr)), ((h 3), .inl (cI, 594, .inl (kA Q))), ((h 4), .inl (cI, 200, .inl (fun zz => nI (ft zz)))), ((h 5), .inl (cI, 12, .inl (fun zz => nI (B zz)))), ((h 6), .inl (cI, 12, .inl (fun zz => nI (Bt zz)))), ((h 7), .inl (cJ, 16, .inr (.inl W))), ((h 8), .inl (cJ, 16, .inr (.inl M))), ((h 9), .inl (cI, 9, .inl (fun zz => nI (a1 zz)))), ((h 10), .inl (cI, 9, .inl (fun zz => nI (a2 zz)))), ((h 11), .inl (cI, 198, .inl (fun zz => nI (a3 zz)))), ((h 12), .inl (cI, 9, .inl (fun zz => nI (a4 zz)))), ((h 13), .inl (cI, 9, .inl (fA a5)))] (S := Unit) (fun _ => True) (fun _ => none) (fun _ => [((h 0), .inr (6, [.ref ((h 1)), .ref ((h 2)), .ref ((h 3)), .int (nI 6), .ref ((h 4)), .int (nI le), .int (nI sp), .ref ((h 5)), .ref ((h 6)), .int (nI ro), .ref ((h 7)), .ref ((h 8)), .ref ((h 9)), .ref ((h 10)), .ref ((h 11)), .ref ((h 12)), .ref ((h 13))])), ((h 1), .inl (cI, 99, .inl (sA F))), ((h 2), .inl (cI, 99, .inl fr)), ((h 3), .inl (cI, 594, .inl (kA (cpQ (shQ Q 495) F 5 99)))), ((h 4), .inl (cI, 200, .inl (fun zz => nI (ft zz)))), ((h 5), .inl (cI, 12, .inl (fun zz => nI (B zz)))), ((h 6), .inl (cI, 12, .inl (fun zz => nI (Bt zz)))), ((h 7), .inl (cJ, 16, .inr (.inl W))), ((h 8), .inl (cJ, 16, .inr (.inl M))), ((h 9), .inl (cI, 9, .inl (fun zz => nI (a1 zz)))), ((h 10), .inl (cI, 9, .inl (fun zz => nI (a2 zz)))), ((h 11), .inl (cI, 198, .inl (fun zz => nI (a3 zz)))), ((h 12), .inl (cI, 9, .inl (fun zz => nI (a4 zz)))), ((h 13), .inl (cI, 9, .inl (fA a5)))]) := by
  refine Ct.of (lv := [(0, .ref ((h 0)))]) (by decide) rfl (Nat.le_of_ble_eq_true rfl) rfl ?_
  intro ε hL EE FF
  have Lp_51 : ∀ (nf : Nat), ∀ (k : Nat), 99 - k < nf → (k ≤ 99) → J l (rmD (0)) D ε [((h 0), .inr (6, [.ref ((h 1)), .ref ((h 2)), .ref ((h 3)), .int (nI 5), .ref ((h 4)), .int (nI le), .int (nI sp), .ref ((h 5)), .ref ((h 6)), .int (nI ro), .ref ((h 7)), .ref ((h 8)), .ref ((h 9)), .ref ((h 10)), .ref ((h 11)), .ref ((h 12)), .ref ((h 13))])), ((h 1), .inl (cI, 99, .inl (sA F))), ((h 2), .inl (cI, 99, .inl fr)), ((h 3), .inl (cI, 594, .inl (kA (cpQ (shQ Q 495) F 5 k)))), ((h 4), .inl (cI, 200, .inl (fun zz => nI (ft zz)))), ((h 5), .inl (cI, 12, .inl (fun zz => nI (B zz)))), ((h 6), .inl (cI, 12, .inl (fun zz => nI (Bt zz)))), ((h 7), .inl (cJ, 16, .inr (.inl W))), ((h 8), .inl (cJ, 16, .inr (.inl M))), ((h 9), .inl (cI, 9, .inl (fun zz => nI (a1 zz)))), ((h 10), .inl (cI, 9, .inl (fun zz => nI (a2 zz)))), ((h 11), .inl (cI, 198, .inl (fun zz => nI (a3 zz)))), ((h 12), .inl (cI, 9, .inl (fun zz => nI (a4 zz)))), ((h 13), .inl (cI, 9, .inl (fA a5)))] 51 [(1, .int (nI k)), (0, .ref ((h 0)))] [] := by
    intro nf
    induction nf with
    | zero => intro k hm; exact absurd hm (Nat.not_lt_zero _)
    | succ nf ihp_51 =>
      intro k hm51 hk
      refine j_iload_n EE 0 dX10_keeps_51 rfl rfl ?_
      refine j_bipush (v := nI 99) EE dX10_keeps_52 (by decide) ?_
      refine j_icmp_ge EE 83 dX10_keeps_54 (by decide) (fun c54 => ?_) (fun c54 => ?_)
      · skip
        have n54 : 99 ≤ k := (nI_leI (a := 99) (b := k) (by omega) (by omega)).mp c54
        refine j_aload_n EE 1 dX10_keeps_83 rfl rfl ?_
        refine j_dup EE rfl dX10_keeps_84 ?_
        refine j_get (T := TX10) EE iw_X10_keeps_X10 0 rfl rfl 3 (by decide) lk_X10_keeps_92 rfl dX10_keeps_85 ?_
        refine j_iconst (v := nI 1) EE dX10_keeps_88 (by decide) ?_
        refine j_iadd EE dX10_keeps_89 ?_
        refine j_topE (y := nI 6) (by decide) ?_
        refine j_put (T := TX10) (ws' := [((h 0), .inr (6, [.ref ((h 1)), .ref ((h 2)), .ref ((h 3)), .int (nI 6), .ref ((h 4)), .int (nI le), .int (nI sp), .ref ((h 5)), .ref ((h 6)), .int (nI ro), .ref ((h 7)), .ref ((h 8)), .ref ((h 9)), .ref ((h 10)), .ref ((h 11)), .ref ((h 12)), .ref ((h 13))])), ((h 1), .inl (cI, 99, .inl (sA F))), ((h 2), .inl (cI, 99, .inl fr)), ((h 3), .inl (cI, 594, .inl (kA (cpQ (shQ Q 495) F 5 k)))), ((h 4), .inl (cI, 200, .inl (fun zz => nI (ft zz)))), ((h 5), .inl (cI, 12, .inl (fun zz => nI (B zz)))), ((h 6), .inl (cI, 12, .inl (fun zz => nI (Bt zz)))), ((h 7), .inl (cJ, 16, .inr (.inl W))), ((h 8), .inl (cJ, 16, .inr (.inl M))), ((h 9), .inl (cI, 9, .inl (fun zz => nI (a1 zz)))), ((h 10), .inl (cI, 9, .inl (fun zz => nI (a2 zz)))), ((h 11), .inl (cI, 198, .inl (fun zz => nI (a3 zz)))), ((h 12), .inl (cI, 9, .inl (fun zz => nI (a4 zz)))), ((h 13), .inl (cI, 9, .inl (fA a5)))]) EE iw_X10_keeps_X10 tyX10 tyX10_ok nmX10 0 rfl rfl 3 (by decide) lk_X10_keeps_92 rfl rfl rfl (Nat.le_of_ble_eq_true rfl) rfl dX10_keeps_90 ?_
        exact j_vret EE FF dX10_keeps_93 () trivial rfl (by rw [show k = 99 by omega])
      · skip
        have n54 : ¬ 99 ≤ k := fun hq => c54 ((nI_leI (a := 99) (b := k) (by omega) (by omega)).mpr hq)
        refine j_aload_n EE 1 dX10_keeps_57 rfl rfl ?_
        refine j_get (T := TX10) EE iw_X10_keeps_X10 0 rfl rfl 2 (by decide) lk_X10_keeps_16 rfl dX10_keeps_58 ?_
        refine j_bipush (v := nI 99) EE dX10_keeps_61 (by decide) ?_
        refine j_aload_n EE 1 dX10_keeps_63 rfl rfl ?_
        refine j_get (T := TX10) EE iw_X10_keeps_X10 0 rfl rfl 3 (by decide) lk_X10_keeps_92 rfl dX10_keeps_64 ?_
        refine j_imul EE dX10_keeps_67 ?_
        refine j_topE (pk_mul 99 5) ?_
        refine j_iload_n EE 0 dX10_keeps_68 rfl rfl ?_
        refine j_iadd EE dX10_keeps_69 ?_
        refine j_topE (nI_add (99 * 5) k) ?_
        refine j_aload_n EE 1 dX10_keeps_70 rfl rfl ?_
        refine j_get (T := TX10) EE iw_X10_keeps_X10 0 rfl rfl 0 (by decide) lk_X10_keeps_7 rfl dX10_keeps_71 ?_
        refine j_iload_n EE 0 dX10_keeps_74 rfl rfl ?_
        refine j_iald EE 1 0 rfl rfl (vp_in_nI (n := k) (by omega) (by decide)) dX10_keeps_75 ?_
        refine j_topE (congrArg (sA F) (nI_clamp (n := k) (by omega))) ?_
        refine j_iast (ws' := [((h 0), .inr (6, [.ref ((h 1)), .ref ((h 2)), .ref ((h 3)), .int (nI 5), .ref ((h 4)), .int (nI le), .int (nI sp), .ref ((h 5)), .ref ((h 6)), .int (nI ro), .ref ((h 7)), .ref ((h 8)), .ref ((h 9)), .ref ((h 10)), .ref ((h 11)), .ref ((h 12)), .ref ((h 13))])), ((h 1), .inl (cI, 99, .inl (sA F))), ((h 2), .inl (cI, 99, .inl fr)), ((h 3), .inl (cI, 594, .inl (kA (cpQ (shQ Q 495) F 5 (k + 1))))), ((h 4), .inl (cI, 200, .inl (fun zz => nI (ft zz)))), ((h 5), .inl (cI, 12, .inl (fun zz => nI (B zz)))), ((h 6), .inl (cI, 12, .inl (fun zz => nI (Bt zz)))), ((h 7), .inl (cJ, 16, .inr (.inl W))), ((h 8), .inl (cJ, 16, .inr (.inl M))), ((h 9), .inl (cI, 9, .inl (fun zz => nI (a1 zz)))), ((h 10), .inl (cI, 9, .inl (fun zz => nI (a2 zz)))), ((h 11), .inl (cI, 198, .inl (fun zz => nI (a3 zz)))), ((h 12), .inl (cI, 9, .inl (fun zz => nI (a4 zz)))), ((h 13), .inl (cI, 9, .inl (fA a5)))]) EE 3 0 rfl rfl (vp_in_nI (n := (99 * 5) + k) (by omega) (by decide)) (by rw [nI_clamp (by omega), upd_kA (by omega), cpQ_s]; rfl) dX10_keeps_76 ?_
        refine j_iinc (v := nI (k + 1)) EE 0 [(1, .int (nI (k + 1))), (0, _)] dX10_keeps_77 rfl (nI_1 k) (Nat.lt_of_lt_of_eq (by decide) hL.symm) rfl ?_
        refine j_goto EE 51 dX10_keeps_80 (by decide) ?_
        exact ihp_51 (k + 1) (by omega) (by omega)
  have Lp_11 : ∀ (nf : Nat), ∀ (k : Nat), 495 - k < nf → (k ≤ 495) → J l (rmD (0)) D ε [((h 0), .inr (6, [.ref ((h 1)), .ref ((h 2)), .ref ((h 3)), .int (nI 6), .ref ((h 4)), .int (nI le), .int (nI sp), .ref ((h 5)), .ref ((h 6)), .int (nI ro), .ref ((h 7)), .ref ((h 8)), .ref ((h 9)), .ref ((h 10)), .ref ((h 11)), .ref ((h 12)), .ref ((h 13))])), ((h 1), .inl (cI, 99, .inl (sA F))), ((h 2), .inl (cI, 99, .inl fr)), ((h 3), .inl (cI, 594, .inl (kA (shQ Q k)))), ((h 4), .inl (cI, 200, .inl (fun zz => nI (ft zz)))), ((h 5), .inl (cI, 12, .inl (fun zz => nI (B zz)))), ((h 6), .inl (cI, 12, .inl (fun zz => nI (Bt zz)))), ((h 7), .inl (cJ, 16, .inr (.inl W))), ((h 8), .inl (cJ, 16, .inr (.inl M))), ((h 9), .inl (cI, 9, .inl (fun zz => nI (a1 zz)))), ((h 10), .inl (cI, 9, .inl (fun zz => nI (a2 zz)))), ((h 11), .inl (cI, 198, .inl (fun zz => nI (a3 zz)))), ((h 12), .inl (cI, 9, .inl (fun zz => nI (a4 zz)))), ((h 13), .inl (cI, 9, .inl (fA a5)))] 11 [(1, .int (nI k)), (0, .ref ((h 0)))] [] := by
    intro nf
    induction nf with
    | zero => intro k hm; exact absurd hm (Nat.not_lt_zero _)
    | succ nf ihp_11 =>
      intro k hm11 hk
      refine j_iload_n EE 0 dX10_keeps_11 rfl rfl ?_
      refine j_sipush (v := nI 495) EE dX10_keeps_12 (by decide) ?_
      refine j_icmp_ge EE 39 dX10_keeps_15 (by decide) (fun c15 => ?_) (fun c15 => ?_)
      · skip
        have n15 : 495 ≤ k := (nI_leI (a := 495) (b := k) (by omega) (by omega)).mp c15
        refine j_aload_n EE 1 dX10_keeps_39 rfl rfl ?_
        refine j_dup EE rfl dX10_keeps_40 ?_
        refine j_get (T := TX10) EE iw_X10_keeps_X10 0 rfl rfl 3 (by decide) lk_X10_keeps_92 rfl dX10_keeps_41 ?_
        refine j_iconst (v := nI 1) EE dX10_keeps_44 (by decide) ?_
        refine j_isub EE dX10_keeps_45 ?_
        refine j_topE (y := nI 5) (by decide) ?_
        refine j_put (T := TX10) (ws' := [((h 0), .inr (6, [.ref ((h 1)), .ref ((h 2)), .ref ((h 3)), .int (nI 5), .ref ((h 4)), .int (nI le), .int (nI sp), .ref ((h 5)), .ref ((h 6)), .int (nI ro), .ref ((h 7)), .ref ((h 8)), .ref ((h 9)), .ref ((h 10)), .ref ((h 11)), .ref ((h 12)), .ref ((h 13))])), ((h 1), .inl (cI, 99, .inl (sA F))), ((h 2), .inl (cI, 99, .inl fr)), ((h 3), .inl (cI, 594, .inl (kA (shQ Q k)))), ((h 4), .inl (cI, 200, .inl (fun zz => nI (ft zz)))), ((h 5), .inl (cI, 12, .inl (fun zz => nI (B zz)))), ((h 6), .inl (cI, 12, .inl (fun zz => nI (Bt zz)))), ((h 7), .inl (cJ, 16, .inr (.inl W))), ((h 8), .inl (cJ, 16, .inr (.inl M))), ((h 9), .inl (cI, 9, .inl (fun zz => nI (a1 zz)))), ((h 10), .inl (cI, 9, .inl (fun zz => nI (a2 zz)))), ((h 11), .inl (cI, 198, .inl (fun zz => nI (a3 zz)))), ((h 12), .inl (cI, 9, .inl (fun zz => nI (a4 zz)))), ((h 13), .inl (cI, 9, .inl (fA a5)))]) EE iw_X10_keeps_X10 tyX10 tyX10_ok nmX10 0 rfl rfl 3 (by decide) lk_X10_keeps_92 rfl rfl rfl (Nat.le_of_ble_eq_true rfl) rfl dX10_keeps_46 ?_
        refine j_iconst (v := nI 0) EE dX10_keeps_49 (by decide) ?_
        refine j_istore_n EE [(1, _), (0, _)] dX10_keeps_50 rfl (Nat.lt_of_lt_of_eq (by decide) hL.symm) rfl ?_
        rw [show k = 495 by omega, ← cpQ_0 (shQ Q 495) F 5]
        exact Lp_51 _ 0 (Nat.lt_succ_self _) (by omega)
      · skip
        have n15 : ¬ 495 ≤ k := fun hq => c15 ((nI_leI (a := 495) (b := k) (by omega) (by omega)).mpr hq)
        refine j_aload_n EE 1 dX10_keeps_18 rfl rfl ?_
        refine j_get (T := TX10) EE iw_X10_keeps_X10 0 rfl rfl 2 (by decide) lk_X10_keeps_16 rfl dX10_keeps_19 ?_
        refine j_iload_n EE 0 dX10_keeps_22 rfl rfl ?_
        refine j_aload_n EE 1 dX10_keeps_23 rfl rfl ?_
        refine j_get (T := TX10) EE iw_X10_keeps_X10 0 rfl rfl 2 (by decide) lk_X10_keeps_16 rfl dX10_keeps_24 ?_
        refine j_bipush (v := nI 99) EE dX10_keeps_27 (by decide) ?_
        refine j_iload_n EE 0 dX10_keeps_29 rfl rfl ?_
        refine j_iadd EE dX10_keeps_30 ?_
        refine j_topE (nI_add 99 k) ?_
        refine j_iald EE 3 0 rfl rfl (vp_in_nI (n := 99 + k) (by omega) (by decide)) dX10_keeps_31 ?_
        refine j_topE (congrArg (kA (shQ Q k)) (nI_clamp (n := 99 + k) (by omega))) ?_
        refine j_iast (ws' := [((h 0), .inr (6, [.ref ((h 1)), .ref ((h 2)), .ref ((h 3)), .int (nI 6), .ref ((h 4)), .int (nI le), .int (nI sp), .ref ((h 5)), .ref ((h 6)), .int (nI ro), .ref ((h 7)), .ref ((h 8)), .ref ((h 9)), .ref ((h 10)), .ref ((h 11)), .ref ((h 12)), .ref ((h 13))])), ((h 1), .inl (cI, 99, .inl (sA F))), ((h 2), .inl (cI, 99, .inl fr)), ((h 3), .inl (cI, 594, .inl (kA (shQ Q (k + 1))))), ((h 4), .inl (cI, 200, .inl (fun zz => nI (ft zz)))), ((h 5), .inl (cI, 12, .inl (fun zz => nI (B zz)))), ((h 6), .inl (cI, 12, .inl (fun zz => nI (Bt zz)))), ((h 7), .inl (cJ, 16, .inr (.inl W))), ((h 8), .inl (cJ, 16, .inr (.inl M))), ((h 9), .inl (cI, 9, .inl (fun zz => nI (a1 zz)))), ((h 10), .inl (cI, 9, .inl (fun zz => nI (a2 zz)))), ((h 11), .inl (cI, 198, .inl (fun zz => nI (a3 zz)))), ((h 12), .inl (cI, 9, .inl (fun zz => nI (a4 zz)))), ((h 13), .inl (cI, 9, .inl (fA a5)))]) EE 3 0 rfl rfl (vp_in_nI (n := k) (by omega) (by decide)) (by rw [nI_clamp (by omega), upd_kk, shQ_s]; rfl) dX10_keeps_32 ?_
        refine j_iinc (v := nI (k + 1)) EE 0 [(1, .int (nI (k + 1))), (0, _)] dX10_keeps_33 rfl (nI_1 k) (Nat.lt_of_lt_of_eq (by decide) hL.symm) rfl ?_
        refine j_goto EE 11 dX10_keeps_36 (by decide) ?_
        exact ihp_11 (k + 1) (by omega) (by omega)
  refine j_aload_n EE 0 dX10_keeps_0 rfl rfl ?_
  refine j_get (T := TX10) EE iw_X10_keeps_X10 0 rfl rfl 3 (by decide) lk_X10_keeps_92 rfl dX10_keeps_1 ?_
  refine j_bipush (v := nI 6) EE dX10_keeps_4 (by decide) ?_
  refine j_icmp_ne EE 49 dX10_keeps_6 (by decide) (fun c6 => absurd (by decide) c6) (fun c6 => ?_)
  have n6 : 6 = 6 := (nI_eq (a := 6) (b := 6) (by omega) (by omega)).mp c6
  refine j_iconst (v := nI 0) EE dX10_keeps_9 (by decide) ?_
  refine j_istore_n EE [(1, _), (0, _)] dX10_keeps_10 rfl (Nat.lt_of_lt_of_eq (by decide) hL.symm) rfl ?_
  rw [← shQ_0 Q]
  exact Lp_11 _ 0 (Nat.lt_succ_self _) (by omega)

set_option maxHeartbeats 4000000 in
set_option maxRecDepth 100000 in
theorem c_X10_keepsC (h F Q ft B Bt a1 a2 a3 a4 a5 : Nat → Nat) (fr : Nat → Int32) (W M : Nat → Int64) (km le sp ro : Nat) (hkm : km ≤ 6) : Ct l yX10_keeps wsX10_keeps (rmD (0)) D [(cI, .int), (cC, .char), (cJ, .long), (cG, .object "PushdownGameSolver$Game")] [.ref ((h 0))] [((h 0), .inr (6, [.ref ((h 1)), .ref ((h 2)), .ref ((h 3)), .int (nI km), .ref ((h 4)), .int (nI le), .int (nI sp), .ref ((h 5)), .ref ((h 6)), .int (nI ro), .ref ((h 7)), .ref ((h 8)), .ref ((h 9)), .ref ((h 10)), .ref ((h 11)), .ref ((h 12)), .ref ((h 13))])), ((h 1), .inl (cI, 99, .inl (sA F))), ((h 2), .inl (cI, 99, .inl fr)), ((h 3), .inl (cI, 594, .inl (kA Q))), ((h 4), .inl (cI, 200, .inl (fun zz => nI (ft zz)))), ((h 5), .inl (cI, 12, .inl (fun zz => nI (B zz)))), ((h 6), .inl (cI, 12, .inl (fun zz => nI (Bt zz)))), ((h 7), .inl (cJ, 16, .inr (.inl W))), ((h 8), .inl (cJ, 16, .inr (.inl M))), ((h 9), .inl (cI, 9, .inl (fun zz => nI (a1 zz)))), ((h 10), .inl (cI, 9, .inl (fun zz => nI (a2 zz)))), ((h 11), .inl (cI, 198, .inl (fun zz => nI (a3 zz)))), ((h 12), .inl (cI, 9, .inl (fun zz => nI (a4 zz)))), ((h 13), .inl (cI, 9, .inl (fA a5)))] (S := Unit) (fun _ => True) (fun _ => none) (fun _ => [((h 0), .inr (6, [.ref ((h 1)), .ref ((h 2)), .ref ((h 3)), .int (nI (min (km + 1) 6)), .ref ((h 4)), .int (nI le), .int (nI sp), .ref ((h 5)), .ref ((h 6)), .int (nI ro), .ref ((h 7)), .ref ((h 8)), .ref ((h 9)), .ref ((h 10)), .ref ((h 11)), .ref ((h 12)), .ref ((h 13))])), ((h 1), .inl (cI, 99, .inl (sA F))), ((h 2), .inl (cI, 99, .inl fr)), ((h 3), .inl (cI, 594, .inl (kA (kpQ km Q F)))), ((h 4), .inl (cI, 200, .inl (fun zz => nI (ft zz)))), ((h 5), .inl (cI, 12, .inl (fun zz => nI (B zz)))), ((h 6), .inl (cI, 12, .inl (fun zz => nI (Bt zz)))), ((h 7), .inl (cJ, 16, .inr (.inl W))), ((h 8), .inl (cJ, 16, .inr (.inl M))), ((h 9), .inl (cI, 9, .inl (fun zz => nI (a1 zz)))), ((h 10), .inl (cI, 9, .inl (fun zz => nI (a2 zz)))), ((h 11), .inl (cI, 198, .inl (fun zz => nI (a3 zz)))), ((h 12), .inl (cI, 9, .inl (fun zz => nI (a4 zz)))), ((h 13), .inl (cI, 9, .inl (fA a5)))]) := by
  by_cases h6 : km = 6
  · subst h6
    rw [show kpQ 6 Q F = cpQ (shQ Q 495) F 5 99 from if_pos rfl, show min (6 + 1) 6 = 6 from rfl]
    exact c_X10_keepsF h F Q ft B Bt a1 a2 a3 a4 a5 fr W M 0 le sp ro
  · rw [show kpQ km Q F = cpQ Q F km 99 from if_neg h6, show min (km + 1) 6 = km + 1 by omega]
    exact c_X10_keeps h F Q ft B Bt a1 a2 a3 a4 a5 fr W M km le sp ro (by omega)

theorem iw_X10_undo_X10 : ∀ w ∈ wsX100, w ∈ wsX10_undo := fun _ h => List.mem_cons_of_mem _ (List.mem_append_right _ h)
theorem lk_X10_undo_92 : Cond.fieldLink RX10 92 (TX10 3).1 (TX10 3).2.1 (TX10 3).2.2.1 ∈ wsX10_undo := List.mem_of_getElem? (i := 1) rfl
set_option maxHeartbeats 4000000 in
set_option maxRecDepth 100000 in
theorem c_X10_undoZ (h F Q ft B Bt a1 a2 a3 a4 a5 : Nat → Nat) (fr : Nat → Int32) (W M : Nat → Int64) (km le sp ro : Nat) (hz : km = 0) : Ct l yX10_undo wsX10_undo (rmD (0)) D [(cI, .int), (cC, .char), (cJ, .long), (cG, .object "PushdownGameSolver$Game")] [.ref ((h 0))] [((h 0), .inr (6, [.ref ((h 1)), .ref ((h 2)), .ref ((h 3)), .int (nI km), .ref ((h 4)), .int (nI le), .int (nI sp), .ref ((h 5)), .ref ((h 6)), .int (nI ro), .ref ((h 7)), .ref ((h 8)), .ref ((h 9)), .ref ((h 10)), .ref ((h 11)), .ref ((h 12)), .ref ((h 13))])), ((h 1), .inl (cI, 99, .inl (sA F))), ((h 2), .inl (cI, 99, .inl fr)), ((h 3), .inl (cI, 594, .inl (kA Q))), ((h 4), .inl (cI, 200, .inl (fun zz => nI (ft zz)))), ((h 5), .inl (cI, 12, .inl (fun zz => nI (B zz)))), ((h 6), .inl (cI, 12, .inl (fun zz => nI (Bt zz)))), ((h 7), .inl (cJ, 16, .inr (.inl W))), ((h 8), .inl (cJ, 16, .inr (.inl M))), ((h 9), .inl (cI, 9, .inl (fun zz => nI (a1 zz)))), ((h 10), .inl (cI, 9, .inl (fun zz => nI (a2 zz)))), ((h 11), .inl (cI, 198, .inl (fun zz => nI (a3 zz)))), ((h 12), .inl (cI, 9, .inl (fun zz => nI (a4 zz)))), ((h 13), .inl (cI, 9, .inl (fA a5)))] (S := Unit) (fun _ => True) (fun _ => some (.int ((-2)))) (fun _ => [((h 0), .inr (6, [.ref ((h 1)), .ref ((h 2)), .ref ((h 3)), .int (nI km), .ref ((h 4)), .int (nI le), .int (nI sp), .ref ((h 5)), .ref ((h 6)), .int (nI ro), .ref ((h 7)), .ref ((h 8)), .ref ((h 9)), .ref ((h 10)), .ref ((h 11)), .ref ((h 12)), .ref ((h 13))])), ((h 1), .inl (cI, 99, .inl (sA F))), ((h 2), .inl (cI, 99, .inl fr)), ((h 3), .inl (cI, 594, .inl (kA Q))), ((h 4), .inl (cI, 200, .inl (fun zz => nI (ft zz)))), ((h 5), .inl (cI, 12, .inl (fun zz => nI (B zz)))), ((h 6), .inl (cI, 12, .inl (fun zz => nI (Bt zz)))), ((h 7), .inl (cJ, 16, .inr (.inl W))), ((h 8), .inl (cJ, 16, .inr (.inl M))), ((h 9), .inl (cI, 9, .inl (fun zz => nI (a1 zz)))), ((h 10), .inl (cI, 9, .inl (fun zz => nI (a2 zz)))), ((h 11), .inl (cI, 198, .inl (fun zz => nI (a3 zz)))), ((h 12), .inl (cI, 9, .inl (fun zz => nI (a4 zz)))), ((h 13), .inl (cI, 9, .inl (fA a5)))]) := by
  refine Ct.of (lv := [(0, .ref ((h 0)))]) (by decide) rfl (Nat.le_of_ble_eq_true rfl) rfl ?_
  intro ε hL EE FF
  refine j_aload_n EE 0 dX10_undo_0 rfl rfl ?_
  refine j_get (T := TX10) EE iw_X10_undo_X10 0 rfl rfl 3 (by decide) lk_X10_undo_92 rfl dX10_undo_1 ?_
  refine j_if_ne EE 10 dX10_undo_4 (by decide) (fun c4 => absurd (by rw [hz]; rfl) c4) (fun c4 => ?_)
  have n4 : km = 0 := (nI_eq (a := km) (b := 0) (by omega) (by omega)).mp c4
  refine j_bipush (v := (-2)) EE dX10_undo_7 (by decide) ?_
  exact j_iret EE FF dX10_undo_9 () trivial (by first | rfl | simp_all) rfl

theorem lk_X10_undo_7 : Cond.fieldLink RX10 7 (TX10 0).1 (TX10 0).2.1 (TX10 0).2.2.1 ∈ wsX10_undo := List.mem_of_getElem? (i := 2) rfl
theorem lk_X10_undo_16 : Cond.fieldLink RX10 16 (TX10 2).1 (TX10 2).2.1 (TX10 2).2.2.1 ∈ wsX10_undo := List.mem_of_getElem? (i := 3) rfl
set_option maxHeartbeats 4000000 in
set_option maxRecDepth 100000 in
theorem c_X10_undo (h F Q ft B Bt a1 a2 a3 a4 a5 : Nat → Nat) (fr : Nat → Int32) (W M : Nat → Int64) (km le sp ro : Nat) (hz : 1 ≤ km) (hkm : km ≤ 6) : Ct l yX10_undo wsX10_undo (rmD (0)) D [(cI, .int), (cC, .char), (cJ, .long), (cG, .object "PushdownGameSolver$Game")] [.ref ((h 0))] [((h 0), .inr (6, [.ref ((h 1)), .ref ((h 2)), .ref ((h 3)), .int (nI km), .ref ((h 4)), .int (nI le), .int (nI sp), .ref ((h 5)), .ref ((h 6)), .int (nI ro), .ref ((h 7)), .ref ((h 8)), .ref ((h 9)), .ref ((h 10)), .ref ((h 11)), .ref ((h 12)), .ref ((h 13))])), ((h 1), .inl (cI, 99, .inl (sA F))), ((h 2), .inl (cI, 99, .inl fr)), ((h 3), .inl (cI, 594, .inl (kA Q))), ((h 4), .inl (cI, 200, .inl (fun zz => nI (ft zz)))), ((h 5), .inl (cI, 12, .inl (fun zz => nI (B zz)))), ((h 6), .inl (cI, 12, .inl (fun zz => nI (Bt zz)))), ((h 7), .inl (cJ, 16, .inr (.inl W))), ((h 8), .inl (cJ, 16, .inr (.inl M))), ((h 9), .inl (cI, 9, .inl (fun zz => nI (a1 zz)))), ((h 10), .inl (cI, 9, .inl (fun zz => nI (a2 zz)))), ((h 11), .inl (cI, 198, .inl (fun zz => nI (a3 zz)))), ((h 12), .inl (cI, 9, .inl (fun zz => nI (a4 zz)))), ((h 13), .inl (cI, 9, .inl (fA a5)))] (S := Unit) (fun _ => True) (fun _ => some (.int (nI (km - 1)))) (fun _ => [((h 0), .inr (6, [.ref ((h 1)), .ref ((h 2)), .ref ((h 3)), .int (nI (km - 1)), .ref ((h 4)), .int (nI le), .int (nI sp), .ref ((h 5)), .ref ((h 6)), .int (nI ro), .ref ((h 7)), .ref ((h 8)), .ref ((h 9)), .ref ((h 10)), .ref ((h 11)), .ref ((h 12)), .ref ((h 13))])), ((h 1), .inl (cI, 99, .inl (sA (unF F Q (km - 1) 99)))), ((h 2), .inl (cI, 99, .inl fr)), ((h 3), .inl (cI, 594, .inl (kA Q))), ((h 4), .inl (cI, 200, .inl (fun zz => nI (ft zz)))), ((h 5), .inl (cI, 12, .inl (fun zz => nI (B zz)))), ((h 6), .inl (cI, 12, .inl (fun zz => nI (Bt zz)))), ((h 7), .inl (cJ, 16, .inr (.inl W))), ((h 8), .inl (cJ, 16, .inr (.inl M))), ((h 9), .inl (cI, 9, .inl (fun zz => nI (a1 zz)))), ((h 10), .inl (cI, 9, .inl (fun zz => nI (a2 zz)))), ((h 11), .inl (cI, 198, .inl (fun zz => nI (a3 zz)))), ((h 12), .inl (cI, 9, .inl (fun zz => nI (a4 zz)))), ((h 13), .inl (cI, 9, .inl (fA a5)))]) := by
  refine Ct.of (lv := [(0, .ref ((h 0)))]) (by decide) rfl (Nat.le_of_ble_eq_true rfl) rfl ?_
  intro ε hL EE FF
  have Lp_22 : ∀ (nf : Nat), ∀ (k : Nat), 99 - k < nf → (k ≤ 99) → J l (rmD (0)) D ε [((h 0), .inr (6, [.ref ((h 1)), .ref ((h 2)), .ref ((h 3)), .int (nI (km - 1)), .ref ((h 4)), .int (nI le), .int (nI sp), .ref ((h 5)), .ref ((h 6)), .int (nI ro), .ref ((h 7)), .ref ((h 8)), .ref ((h 9)), .ref ((h 10)), .ref ((h 11)), .ref ((h 12)), .ref ((h 13))])), ((h 1), .inl (cI, 99, .inl (sA (unF F Q (km - 1) k)))), ((h 2), .inl (cI, 99, .inl fr)), ((h 3), .inl (cI, 594, .inl (kA Q))), ((h 4), .inl (cI, 200, .inl (fun zz => nI (ft zz)))), ((h 5), .inl (cI, 12, .inl (fun zz => nI (B zz)))), ((h 6), .inl (cI, 12, .inl (fun zz => nI (Bt zz)))), ((h 7), .inl (cJ, 16, .inr (.inl W))), ((h 8), .inl (cJ, 16, .inr (.inl M))), ((h 9), .inl (cI, 9, .inl (fun zz => nI (a1 zz)))), ((h 10), .inl (cI, 9, .inl (fun zz => nI (a2 zz)))), ((h 11), .inl (cI, 198, .inl (fun zz => nI (a3 zz)))), ((h 12), .inl (cI, 9, .inl (fun zz => nI (a4 zz)))), ((h 13), .inl (cI, 9, .inl (fA a5)))] 22 [(1, .int (nI k)), (0, .ref ((h 0)))] [] := by
    intro nf
    induction nf with
    | zero => intro k hm; exact absurd hm (Nat.not_lt_zero _)
    | succ nf ihp_22 =>
      intro k hm22 hk
      refine j_iload_n EE 0 dX10_undo_22 rfl rfl ?_
      refine j_bipush (v := nI 99) EE dX10_undo_23 (by decide) ?_
      refine j_icmp_ge EE 54 dX10_undo_25 (by decide) (fun c25 => ?_) (fun c25 => ?_)
      · skip
        have n25 : 99 ≤ k := (nI_leI (a := 99) (b := k) (by omega) (by omega)).mp c25
        refine j_aload_n EE 1 dX10_undo_54 rfl rfl ?_
        refine j_get (T := TX10) EE iw_X10_undo_X10 0 rfl rfl 3 (by decide) lk_X10_undo_92 rfl dX10_undo_55 ?_
        exact j_iret EE FF dX10_undo_58 () trivial (by first | rfl | simp_all) (by rw [show k = 99 by omega])
      · skip
        have n25 : ¬ 99 ≤ k := fun hq => c25 ((nI_leI (a := 99) (b := k) (by omega) (by omega)).mpr hq)
        refine j_aload_n EE 1 dX10_undo_28 rfl rfl ?_
        refine j_get (T := TX10) EE iw_X10_undo_X10 0 rfl rfl 0 (by decide) lk_X10_undo_7 rfl dX10_undo_29 ?_
        refine j_iload_n EE 0 dX10_undo_32 rfl rfl ?_
        refine j_aload_n EE 1 dX10_undo_33 rfl rfl ?_
        refine j_get (T := TX10) EE iw_X10_undo_X10 0 rfl rfl 2 (by decide) lk_X10_undo_16 rfl dX10_undo_34 ?_
        refine j_bipush (v := nI 99) EE dX10_undo_37 (by decide) ?_
        refine j_aload_n EE 1 dX10_undo_39 rfl rfl ?_
        refine j_get (T := TX10) EE iw_X10_undo_X10 0 rfl rfl 3 (by decide) lk_X10_undo_92 rfl dX10_undo_40 ?_
        refine j_imul EE dX10_undo_43 ?_
        refine j_topE (pk_mul 99 (km - 1)) ?_
        refine j_iload_n EE 0 dX10_undo_44 rfl rfl ?_
        refine j_iadd EE dX10_undo_45 ?_
        refine j_topE (nI_add (99 * (km - 1)) k) ?_
        refine j_iald EE 3 0 rfl rfl (vp_in_nI (n := (99 * (km - 1)) + k) (by omega) (by decide)) dX10_undo_46 ?_
        refine j_topE (congrArg (kA Q) (nI_clamp (n := (99 * (km - 1)) + k) (by omega))) ?_
        refine j_iast (ws' := [((h 0), .inr (6, [.ref ((h 1)), .ref ((h 2)), .ref ((h 3)), .int (nI (km - 1)), .ref ((h 4)), .int (nI le), .int (nI sp), .ref ((h 5)), .ref ((h 6)), .int (nI ro), .ref ((h 7)), .ref ((h 8)), .ref ((h 9)), .ref ((h 10)), .ref ((h 11)), .ref ((h 12)), .ref ((h 13))])), ((h 1), .inl (cI, 99, .inl (sA (unF F Q (km - 1) (k + 1))))), ((h 2), .inl (cI, 99, .inl fr)), ((h 3), .inl (cI, 594, .inl (kA Q))), ((h 4), .inl (cI, 200, .inl (fun zz => nI (ft zz)))), ((h 5), .inl (cI, 12, .inl (fun zz => nI (B zz)))), ((h 6), .inl (cI, 12, .inl (fun zz => nI (Bt zz)))), ((h 7), .inl (cJ, 16, .inr (.inl W))), ((h 8), .inl (cJ, 16, .inr (.inl M))), ((h 9), .inl (cI, 9, .inl (fun zz => nI (a1 zz)))), ((h 10), .inl (cI, 9, .inl (fun zz => nI (a2 zz)))), ((h 11), .inl (cI, 198, .inl (fun zz => nI (a3 zz)))), ((h 12), .inl (cI, 9, .inl (fun zz => nI (a4 zz)))), ((h 13), .inl (cI, 9, .inl (fA a5)))]) EE 1 0 rfl rfl (vp_in_nI (n := k) (by omega) (by decide)) (by rw [nI_clamp (by omega), upd_sk (by omega), unF_s]; rfl) dX10_undo_47 ?_
        refine j_iinc (v := nI (k + 1)) EE 0 [(1, .int (nI (k + 1))), (0, _)] dX10_undo_48 rfl (nI_1 k) (Nat.lt_of_lt_of_eq (by decide) hL.symm) rfl ?_
        refine j_goto EE 22 dX10_undo_51 (by decide) ?_
        exact ihp_22 (k + 1) (by omega) (by omega)
  refine j_aload_n EE 0 dX10_undo_0 rfl rfl ?_
  refine j_get (T := TX10) EE iw_X10_undo_X10 0 rfl rfl 3 (by decide) lk_X10_undo_92 rfl dX10_undo_1 ?_
  refine j_if_ne EE 10 dX10_undo_4 (by decide) (fun c4 => ?_) (fun c4 => absurd ((nI_eq (a := km) (b := 0) (by omega) (by omega)).mp c4) (by omega))
  have n4 : km ≠ 0 := fun hq => c4 ((nI_eq (a := km) (b := 0) (by omega) (by omega)).mpr hq)
  refine j_aload_n EE 0 dX10_undo_10 rfl rfl ?_
  refine j_dup EE rfl dX10_undo_11 ?_
  refine j_get (T := TX10) EE iw_X10_undo_X10 0 rfl rfl 3 (by decide) lk_X10_undo_92 rfl dX10_undo_12 ?_
  refine j_iconst (v := nI 1) EE dX10_undo_15 (by decide) ?_
  refine j_isub EE dX10_undo_16 ?_
  refine j_topE (pk_sub (a := km) (b := 1) (by omega)) ?_
  refine j_put (T := TX10) (ws' := [((h 0), .inr (6, [.ref ((h 1)), .ref ((h 2)), .ref ((h 3)), .int (nI (km - 1)), .ref ((h 4)), .int (nI le), .int (nI sp), .ref ((h 5)), .ref ((h 6)), .int (nI ro), .ref ((h 7)), .ref ((h 8)), .ref ((h 9)), .ref ((h 10)), .ref ((h 11)), .ref ((h 12)), .ref ((h 13))])), ((h 1), .inl (cI, 99, .inl (sA F))), ((h 2), .inl (cI, 99, .inl fr)), ((h 3), .inl (cI, 594, .inl (kA Q))), ((h 4), .inl (cI, 200, .inl (fun zz => nI (ft zz)))), ((h 5), .inl (cI, 12, .inl (fun zz => nI (B zz)))), ((h 6), .inl (cI, 12, .inl (fun zz => nI (Bt zz)))), ((h 7), .inl (cJ, 16, .inr (.inl W))), ((h 8), .inl (cJ, 16, .inr (.inl M))), ((h 9), .inl (cI, 9, .inl (fun zz => nI (a1 zz)))), ((h 10), .inl (cI, 9, .inl (fun zz => nI (a2 zz)))), ((h 11), .inl (cI, 198, .inl (fun zz => nI (a3 zz)))), ((h 12), .inl (cI, 9, .inl (fun zz => nI (a4 zz)))), ((h 13), .inl (cI, 9, .inl (fA a5)))]) EE iw_X10_undo_X10 tyX10 tyX10_ok nmX10 0 rfl rfl 3 (by decide) lk_X10_undo_92 rfl rfl rfl (Nat.le_of_ble_eq_true rfl) rfl dX10_undo_17 ?_
  refine j_iconst (v := nI 0) EE dX10_undo_20 (by decide) ?_
  refine j_istore_n EE [(1, _), (0, _)] dX10_undo_21 rfl (Nat.lt_of_lt_of_eq (by decide) hL.symm) rfl ?_
  rw [← unF_0 F Q (km - 1)]
  exact Lp_22 _ 0 (Nat.lt_succ_self _) (by omega)

theorem hd_X10_isRule : yX10_isRule.cls ≠ "java/lang/invoke/MethodHandle" ∧ yX10_isRule.cls ≠ "java/lang/invoke/VarHandle" ∧ (parseMethodDescriptor yX10_isRule.desc).map (fun d => d.parameters.length) = some 1 := by decide +kernel
set_option maxHeartbeats 4000000 in
set_option maxRecDepth 100000 in
theorem c_X10_ruleStateE (h F Q ft B Bt a1 a2 a3 a4 a5 : Nat → Nat) (fr : Nat → Int32) (W M : Nat → Int64) (km le sp ro : Nat) (x : Int32) (hFb : ∀ i, F i < 65536) (hi : inR x (F 4) = false) : Ct l yX10_ruleState wsX10_ruleState (rmD (3)) D [(cI, .int), (cC, .char), (cJ, .long), (cG, .object "PushdownGameSolver$Game")] [.ref ((h 0)), .int (x)] [((h 0), .inr (6, [.ref ((h 1)), .ref ((h 2)), .ref ((h 3)), .int (nI km), .ref ((h 4)), .int (nI le), .int (nI sp), .ref ((h 5)), .ref ((h 6)), .int (nI ro), .ref ((h 7)), .ref ((h 8)), .ref ((h 9)), .ref ((h 10)), .ref ((h 11)), .ref ((h 12)), .ref ((h 13))])), ((h 1), .inl (cI, 99, .inl (sA F))), ((h 2), .inl (cI, 99, .inl fr)), ((h 3), .inl (cI, 594, .inl (kA Q))), ((h 4), .inl (cI, 200, .inl (fun zz => nI (ft zz)))), ((h 5), .inl (cI, 12, .inl (fun zz => nI (B zz)))), ((h 6), .inl (cI, 12, .inl (fun zz => nI (Bt zz)))), ((h 7), .inl (cJ, 16, .inr (.inl W))), ((h 8), .inl (cJ, 16, .inr (.inl M))), ((h 9), .inl (cI, 9, .inl (fun zz => nI (a1 zz)))), ((h 10), .inl (cI, 9, .inl (fun zz => nI (a2 zz)))), ((h 11), .inl (cI, 198, .inl (fun zz => nI (a3 zz)))), ((h 12), .inl (cI, 9, .inl (fun zz => nI (a4 zz)))), ((h 13), .inl (cI, 9, .inl (fA a5)))] (S := Unit) (fun _ => True) (fun _ => some (.int ((-1)))) (fun _ => [((h 0), .inr (6, [.ref ((h 1)), .ref ((h 2)), .ref ((h 3)), .int (nI km), .ref ((h 4)), .int (nI le), .int (nI sp), .ref ((h 5)), .ref ((h 6)), .int (nI ro), .ref ((h 7)), .ref ((h 8)), .ref ((h 9)), .ref ((h 10)), .ref ((h 11)), .ref ((h 12)), .ref ((h 13))])), ((h 1), .inl (cI, 99, .inl (sA F))), ((h 2), .inl (cI, 99, .inl fr)), ((h 3), .inl (cI, 594, .inl (kA Q))), ((h 4), .inl (cI, 200, .inl (fun zz => nI (ft zz)))), ((h 5), .inl (cI, 12, .inl (fun zz => nI (B zz)))), ((h 6), .inl (cI, 12, .inl (fun zz => nI (Bt zz)))), ((h 7), .inl (cJ, 16, .inr (.inl W))), ((h 8), .inl (cJ, 16, .inr (.inl M))), ((h 9), .inl (cI, 9, .inl (fun zz => nI (a1 zz)))), ((h 10), .inl (cI, 9, .inl (fun zz => nI (a2 zz)))), ((h 11), .inl (cI, 198, .inl (fun zz => nI (a3 zz)))), ((h 12), .inl (cI, 9, .inl (fun zz => nI (a4 zz)))), ((h 13), .inl (cI, 9, .inl (fA a5)))]) := by
  refine Ct.of (lv := [(0, .ref ((h 0))), (1, .int (x))]) (by decide) rfl (Nat.le_of_ble_eq_true rfl) rfl ?_
  intro ε hL EE FF
  refine j_aload_n EE 0 dX10_ruleState_0 rfl rfl ?_
  refine j_iload_n EE 1 dX10_ruleState_1 rfl rfl ?_
  refine j_V2 (n9 := 14) EE (c_X10_isRule h F Q ft B Bt a1 a2 a3 a4 a5 fr W M km le sp ro x hFb) gX10_ruleState_X10_isRule ⟨rfl, hd_X10_isRule⟩ rfl ⟨rfl, rfl⟩ ⟨by decide, by decide⟩ rfl [0, 1, 2, 3, 4, 5, 6, 7, 8, 9, 10, 11, 12, 13] rfl [] [((h 0), .inr (6, [.ref ((h 1)), .ref ((h 2)), .ref ((h 3)), .int (nI km), .ref ((h 4)), .int (nI le), .int (nI sp), .ref ((h 5)), .ref ((h 6)), .int (nI ro), .ref ((h 7)), .ref ((h 8)), .ref ((h 9)), .ref ((h 10)), .ref ((h 11)), .ref ((h 12)), .ref ((h 13))])), ((h 1), .inl (cI, 99, .inl (sA F))), ((h 2), .inl (cI, 99, .inl fr)), ((h 3), .inl (cI, 594, .inl (kA Q))), ((h 4), .inl (cI, 200, .inl (fun zz => nI (ft zz)))), ((h 5), .inl (cI, 12, .inl (fun zz => nI (B zz)))), ((h 6), .inl (cI, 12, .inl (fun zz => nI (Bt zz)))), ((h 7), .inl (cJ, 16, .inr (.inl W))), ((h 8), .inl (cJ, 16, .inr (.inl M))), ((h 9), .inl (cI, 9, .inl (fun zz => nI (a1 zz)))), ((h 10), .inl (cI, 9, .inl (fun zz => nI (a2 zz)))), ((h 11), .inl (cI, 198, .inl (fun zz => nI (a3 zz)))), ((h 12), .inl (cI, 9, .inl (fun zz => nI (a4 zz)))), ((h 13), .inl (cI, 9, .inl (fA a5)))] (fun _ => rfl) [] [(h 0), (h 1), (h 2), (h 3), (h 4), (h 5), (h 6), (h 7), (h 8), (h 9), (h 10), (h 11), (h 12), (h 13)] rfl rfl rfl rfl rfl (by decide) (by decide) 0 rfl rfl rfl (Nat.le_of_ble_eq_true rfl) dX10_ruleState_2 (fun u_2 h_2 => ?_) rfl
  show J l _ D ε _ _ _ (.int (nI (b2n (inR x (F 4)))) :: _)
  refine j_if_eq EE 17 dX10_ruleState_5 (by decide) (fun c5 => ?_) (fun c5 => absurd (by rw [hi]; rfl) c5)
  have n5 : (b2n (inR x (F 4))) = 0 := (nI_eq (a := (b2n (inR x (F 4)))) (b := 0) (by have := b2n_lt (inR x (F 4)); omega) (by have := b2n_lt (inR x (F 4)); omega)).mp c5
  refine j_iconst (v := (-1)) EE dX10_ruleState_17 (by decide) ?_
  exact j_iret EE FF dX10_ruleState_18 () trivial (by first | rfl | simp_all) rfl

theorem hd_X10_ofRule : yX10_ofRule.cls ≠ "java/lang/invoke/MethodHandle" ∧ yX10_ofRule.cls ≠ "java/lang/invoke/VarHandle" ∧ (parseMethodDescriptor yX10_ofRule.desc).map (fun d => d.parameters.length) = some 2 := by decide +kernel
set_option maxHeartbeats 4000000 in
set_option maxRecDepth 100000 in
theorem c_X10_ruleState (h F Q ft B Bt a1 a2 a3 a4 a5 : Nat → Nat) (fr : Nat → Int32) (W M : Nat → Int64) (km le sp ro : Nat) (j : Nat) (hFb : ∀ i, F i < 65536) (hj : j < F 4) (hn : F 4 ≤ 16) : Ct l yX10_ruleState wsX10_ruleState (rmD (3)) D [(cI, .int), (cC, .char), (cJ, .long), (cG, .object "PushdownGameSolver$Game")] [.ref ((h 0)), .int (nI j)] [((h 0), .inr (6, [.ref ((h 1)), .ref ((h 2)), .ref ((h 3)), .int (nI km), .ref ((h 4)), .int (nI le), .int (nI sp), .ref ((h 5)), .ref ((h 6)), .int (nI ro), .ref ((h 7)), .ref ((h 8)), .ref ((h 9)), .ref ((h 10)), .ref ((h 11)), .ref ((h 12)), .ref ((h 13))])), ((h 1), .inl (cI, 99, .inl (sA F))), ((h 2), .inl (cI, 99, .inl fr)), ((h 3), .inl (cI, 594, .inl (kA Q))), ((h 4), .inl (cI, 200, .inl (fun zz => nI (ft zz)))), ((h 5), .inl (cI, 12, .inl (fun zz => nI (B zz)))), ((h 6), .inl (cI, 12, .inl (fun zz => nI (Bt zz)))), ((h 7), .inl (cJ, 16, .inr (.inl W))), ((h 8), .inl (cJ, 16, .inr (.inl M))), ((h 9), .inl (cI, 9, .inl (fun zz => nI (a1 zz)))), ((h 10), .inl (cI, 9, .inl (fun zz => nI (a2 zz)))), ((h 11), .inl (cI, 198, .inl (fun zz => nI (a3 zz)))), ((h 12), .inl (cI, 9, .inl (fun zz => nI (a4 zz)))), ((h 13), .inl (cI, 9, .inl (fA a5)))] (S := Unit) (fun _ => True) (fun _ => some (.int (nI (F (5 + 5 * j + 0))))) (fun _ => [((h 0), .inr (6, [.ref ((h 1)), .ref ((h 2)), .ref ((h 3)), .int (nI km), .ref ((h 4)), .int (nI le), .int (nI sp), .ref ((h 5)), .ref ((h 6)), .int (nI ro), .ref ((h 7)), .ref ((h 8)), .ref ((h 9)), .ref ((h 10)), .ref ((h 11)), .ref ((h 12)), .ref ((h 13))])), ((h 1), .inl (cI, 99, .inl (sA F))), ((h 2), .inl (cI, 99, .inl fr)), ((h 3), .inl (cI, 594, .inl (kA Q))), ((h 4), .inl (cI, 200, .inl (fun zz => nI (ft zz)))), ((h 5), .inl (cI, 12, .inl (fun zz => nI (B zz)))), ((h 6), .inl (cI, 12, .inl (fun zz => nI (Bt zz)))), ((h 7), .inl (cJ, 16, .inr (.inl W))), ((h 8), .inl (cJ, 16, .inr (.inl M))), ((h 9), .inl (cI, 9, .inl (fun zz => nI (a1 zz)))), ((h 10), .inl (cI, 9, .inl (fun zz => nI (a2 zz)))), ((h 11), .inl (cI, 198, .inl (fun zz => nI (a3 zz)))), ((h 12), .inl (cI, 9, .inl (fun zz => nI (a4 zz)))), ((h 13), .inl (cI, 9, .inl (fA a5)))]) := by
  refine Ct.of (lv := [(0, .ref ((h 0))), (1, .int (nI j))]) (by decide) rfl (Nat.le_of_ble_eq_true rfl) rfl ?_
  intro ε hL EE FF
  refine j_aload_n EE 0 dX10_ruleState_0 rfl rfl ?_
  refine j_iload_n EE 1 dX10_ruleState_1 rfl rfl ?_
  refine j_V2 (n9 := 14) EE (c_X10_isRule h F Q ft B Bt a1 a2 a3 a4 a5 fr W M km le sp ro (nI j) hFb) gX10_ruleState_X10_isRule ⟨rfl, hd_X10_isRule⟩ rfl ⟨rfl, rfl⟩ ⟨by decide, by decide⟩ rfl [0, 1, 2, 3, 4, 5, 6, 7, 8, 9, 10, 11, 12, 13] rfl [] [((h 0), .inr (6, [.ref ((h 1)), .ref ((h 2)), .ref ((h 3)), .int (nI km), .ref ((h 4)), .int (nI le), .int (nI sp), .ref ((h 5)), .ref ((h 6)), .int (nI ro), .ref ((h 7)), .ref ((h 8)), .ref ((h 9)), .ref ((h 10)), .ref ((h 11)), .ref ((h 12)), .ref ((h 13))])), ((h 1), .inl (cI, 99, .inl (sA F))), ((h 2), .inl (cI, 99, .inl fr)), ((h 3), .inl (cI, 594, .inl (kA Q))), ((h 4), .inl (cI, 200, .inl (fun zz => nI (ft zz)))), ((h 5), .inl (cI, 12, .inl (fun zz => nI (B zz)))), ((h 6), .inl (cI, 12, .inl (fun zz => nI (Bt zz)))), ((h 7), .inl (cJ, 16, .inr (.inl W))), ((h 8), .inl (cJ, 16, .inr (.inl M))), ((h 9), .inl (cI, 9, .inl (fun zz => nI (a1 zz)))), ((h 10), .inl (cI, 9, .inl (fun zz => nI (a2 zz)))), ((h 11), .inl (cI, 198, .inl (fun zz => nI (a3 zz)))), ((h 12), .inl (cI, 9, .inl (fun zz => nI (a4 zz)))), ((h 13), .inl (cI, 9, .inl (fA a5)))] (fun _ => rfl) [] [(h 0), (h 1), (h 2), (h 3), (h 4), (h 5), (h 6), (h 7), (h 8), (h 9), (h 10), (h 11), (h 12), (h 13)] rfl rfl rfl rfl rfl (by decide) (by decide) 0 rfl rfl rfl (Nat.le_of_ble_eq_true rfl) dX10_ruleState_2 (fun u_2 h_2 => ?_) rfl
  show J l _ D ε _ _ _ (.int (nI (b2n (inR (nI j) (F 4)))) :: _)
  refine j_if_eq EE 17 dX10_ruleState_5 (by decide) (fun c5 => absurd c5 (by rw [inR_nI hj (by omega)]; decide)) (fun c5 => ?_)
  have n5 : (b2n (inR (nI j) (F 4))) ≠ 0 := fun hq => c5 ((nI_eq (a := (b2n (inR (nI j) (F 4)))) (b := 0) (by have := b2n_lt (inR (nI j) (F 4)); omega) (by have := b2n_lt (inR (nI j) (F 4)); omega)).mpr hq)
  refine j_aload_n EE 0 dX10_ruleState_8 rfl rfl ?_
  refine j_iload_n EE 1 dX10_ruleState_9 rfl rfl ?_
  refine j_iconst (v := nI 0) EE dX10_ruleState_10 (by decide) ?_
  refine j_V2 (n9 := 14) EE (c_X10_ofRule h F Q ft B Bt a1 a2 a3 a4 a5 fr W M km le sp ro j 0 (by omega) (by omega)) gX10_ruleState_X10_ofRule ⟨rfl, hd_X10_ofRule⟩ rfl ⟨rfl, rfl⟩ ⟨by decide, by decide⟩ rfl [0, 1, 2, 3, 4, 5, 6, 7, 8, 9, 10, 11, 12, 13] rfl [] [((h 0), .inr (6, [.ref ((h 1)), .ref ((h 2)), .ref ((h 3)), .int (nI km), .ref ((h 4)), .int (nI le), .int (nI sp), .ref ((h 5)), .ref ((h 6)), .int (nI ro), .ref ((h 7)), .ref ((h 8)), .ref ((h 9)), .ref ((h 10)), .ref ((h 11)), .ref ((h 12)), .ref ((h 13))])), ((h 1), .inl (cI, 99, .inl (sA F))), ((h 2), .inl (cI, 99, .inl fr)), ((h 3), .inl (cI, 594, .inl (kA Q))), ((h 4), .inl (cI, 200, .inl (fun zz => nI (ft zz)))), ((h 5), .inl (cI, 12, .inl (fun zz => nI (B zz)))), ((h 6), .inl (cI, 12, .inl (fun zz => nI (Bt zz)))), ((h 7), .inl (cJ, 16, .inr (.inl W))), ((h 8), .inl (cJ, 16, .inr (.inl M))), ((h 9), .inl (cI, 9, .inl (fun zz => nI (a1 zz)))), ((h 10), .inl (cI, 9, .inl (fun zz => nI (a2 zz)))), ((h 11), .inl (cI, 198, .inl (fun zz => nI (a3 zz)))), ((h 12), .inl (cI, 9, .inl (fun zz => nI (a4 zz)))), ((h 13), .inl (cI, 9, .inl (fA a5)))] (fun _ => rfl) [] [(h 0), (h 1), (h 2), (h 3), (h 4), (h 5), (h 6), (h 7), (h 8), (h 9), (h 10), (h 11), (h 12), (h 13)] rfl rfl rfl rfl rfl (by decide) (by decide) 0 rfl rfl rfl (Nat.le_of_ble_eq_true rfl) dX10_ruleState_11 (fun u_11 h_11 => ?_) rfl
  show J l _ D ε _ _ _ (.int (nI (F (5 + 5 * j + 0))) :: _)
  refine j_goto EE 18 dX10_ruleState_14 (by decide) ?_
  exact j_iret EE FF dX10_ruleState_18 () trivial (by first | rfl | simp_all) rfl

set_option maxHeartbeats 4000000 in
set_option maxRecDepth 100000 in
theorem c_X10_ruleTopE (h F Q ft B Bt a1 a2 a3 a4 a5 : Nat → Nat) (fr : Nat → Int32) (W M : Nat → Int64) (km le sp ro : Nat) (x : Int32) (hFb : ∀ i, F i < 65536) (hi : inR x (F 4) = false) : Ct l yX10_ruleTop wsX10_ruleTop (rmD (3)) D [(cI, .int), (cC, .char), (cJ, .long), (cG, .object "PushdownGameSolver$Game")] [.ref ((h 0)), .int (x)] [((h 0), .inr (6, [.ref ((h 1)), .ref ((h 2)), .ref ((h 3)), .int (nI km), .ref ((h 4)), .int (nI le), .int (nI sp), .ref ((h 5)), .ref ((h 6)), .int (nI ro), .ref ((h 7)), .ref ((h 8)), .ref ((h 9)), .ref ((h 10)), .ref ((h 11)), .ref ((h 12)), .ref ((h 13))])), ((h 1), .inl (cI, 99, .inl (sA F))), ((h 2), .inl (cI, 99, .inl fr)), ((h 3), .inl (cI, 594, .inl (kA Q))), ((h 4), .inl (cI, 200, .inl (fun zz => nI (ft zz)))), ((h 5), .inl (cI, 12, .inl (fun zz => nI (B zz)))), ((h 6), .inl (cI, 12, .inl (fun zz => nI (Bt zz)))), ((h 7), .inl (cJ, 16, .inr (.inl W))), ((h 8), .inl (cJ, 16, .inr (.inl M))), ((h 9), .inl (cI, 9, .inl (fun zz => nI (a1 zz)))), ((h 10), .inl (cI, 9, .inl (fun zz => nI (a2 zz)))), ((h 11), .inl (cI, 198, .inl (fun zz => nI (a3 zz)))), ((h 12), .inl (cI, 9, .inl (fun zz => nI (a4 zz)))), ((h 13), .inl (cI, 9, .inl (fA a5)))] (S := Unit) (fun _ => True) (fun _ => some (.int ((-1)))) (fun _ => [((h 0), .inr (6, [.ref ((h 1)), .ref ((h 2)), .ref ((h 3)), .int (nI km), .ref ((h 4)), .int (nI le), .int (nI sp), .ref ((h 5)), .ref ((h 6)), .int (nI ro), .ref ((h 7)), .ref ((h 8)), .ref ((h 9)), .ref ((h 10)), .ref ((h 11)), .ref ((h 12)), .ref ((h 13))])), ((h 1), .inl (cI, 99, .inl (sA F))), ((h 2), .inl (cI, 99, .inl fr)), ((h 3), .inl (cI, 594, .inl (kA Q))), ((h 4), .inl (cI, 200, .inl (fun zz => nI (ft zz)))), ((h 5), .inl (cI, 12, .inl (fun zz => nI (B zz)))), ((h 6), .inl (cI, 12, .inl (fun zz => nI (Bt zz)))), ((h 7), .inl (cJ, 16, .inr (.inl W))), ((h 8), .inl (cJ, 16, .inr (.inl M))), ((h 9), .inl (cI, 9, .inl (fun zz => nI (a1 zz)))), ((h 10), .inl (cI, 9, .inl (fun zz => nI (a2 zz)))), ((h 11), .inl (cI, 198, .inl (fun zz => nI (a3 zz)))), ((h 12), .inl (cI, 9, .inl (fun zz => nI (a4 zz)))), ((h 13), .inl (cI, 9, .inl (fA a5)))]) := by
  refine Ct.of (lv := [(0, .ref ((h 0))), (1, .int (x))]) (by decide) rfl (Nat.le_of_ble_eq_true rfl) rfl ?_
  intro ε hL EE FF
  refine j_aload_n EE 0 dX10_ruleTop_0 rfl rfl ?_
  refine j_iload_n EE 1 dX10_ruleTop_1 rfl rfl ?_
  refine j_V2 (n9 := 14) EE (c_X10_isRule h F Q ft B Bt a1 a2 a3 a4 a5 fr W M km le sp ro x hFb) gX10_ruleTop_X10_isRule ⟨rfl, hd_X10_isRule⟩ rfl ⟨rfl, rfl⟩ ⟨by decide, by decide⟩ rfl [0, 1, 2, 3, 4, 5, 6, 7, 8, 9, 10, 11, 12, 13] rfl [] [((h 0), .inr (6, [.ref ((h 1)), .ref ((h 2)), .ref ((h 3)), .int (nI km), .ref ((h 4)), .int (nI le), .int (nI sp), .ref ((h 5)), .ref ((h 6)), .int (nI ro), .ref ((h 7)), .ref ((h 8)), .ref ((h 9)), .ref ((h 10)), .ref ((h 11)), .ref ((h 12)), .ref ((h 13))])), ((h 1), .inl (cI, 99, .inl (sA F))), ((h 2), .inl (cI, 99, .inl fr)), ((h 3), .inl (cI, 594, .inl (kA Q))), ((h 4), .inl (cI, 200, .inl (fun zz => nI (ft zz)))), ((h 5), .inl (cI, 12, .inl (fun zz => nI (B zz)))), ((h 6), .inl (cI, 12, .inl (fun zz => nI (Bt zz)))), ((h 7), .inl (cJ, 16, .inr (.inl W))), ((h 8), .inl (cJ, 16, .inr (.inl M))), ((h 9), .inl (cI, 9, .inl (fun zz => nI (a1 zz)))), ((h 10), .inl (cI, 9, .inl (fun zz => nI (a2 zz)))), ((h 11), .inl (cI, 198, .inl (fun zz => nI (a3 zz)))), ((h 12), .inl (cI, 9, .inl (fun zz => nI (a4 zz)))), ((h 13), .inl (cI, 9, .inl (fA a5)))] (fun _ => rfl) [] [(h 0), (h 1), (h 2), (h 3), (h 4), (h 5), (h 6), (h 7), (h 8), (h 9), (h 10), (h 11), (h 12), (h 13)] rfl rfl rfl rfl rfl (by decide) (by decide) 0 rfl rfl rfl (Nat.le_of_ble_eq_true rfl) dX10_ruleTop_2 (fun u_2 h_2 => ?_) rfl
  show J l _ D ε _ _ _ (.int (nI (b2n (inR x (F 4)))) :: _)
  refine j_if_eq EE 17 dX10_ruleTop_5 (by decide) (fun c5 => ?_) (fun c5 => absurd (by rw [hi]; rfl) c5)
  have n5 : (b2n (inR x (F 4))) = 0 := (nI_eq (a := (b2n (inR x (F 4)))) (b := 0) (by have := b2n_lt (inR x (F 4)); omega) (by have := b2n_lt (inR x (F 4)); omega)).mp c5
  refine j_iconst (v := (-1)) EE dX10_ruleTop_17 (by decide) ?_
  exact j_iret EE FF dX10_ruleTop_18 () trivial (by first | rfl | simp_all) rfl

set_option maxHeartbeats 4000000 in
set_option maxRecDepth 100000 in
theorem c_X10_ruleTop (h F Q ft B Bt a1 a2 a3 a4 a5 : Nat → Nat) (fr : Nat → Int32) (W M : Nat → Int64) (km le sp ro : Nat) (j : Nat) (hFb : ∀ i, F i < 65536) (hj : j < F 4) (hn : F 4 ≤ 16) : Ct l yX10_ruleTop wsX10_ruleTop (rmD (3)) D [(cI, .int), (cC, .char), (cJ, .long), (cG, .object "PushdownGameSolver$Game")] [.ref ((h 0)), .int (nI j)] [((h 0), .inr (6, [.ref ((h 1)), .ref ((h 2)), .ref ((h 3)), .int (nI km), .ref ((h 4)), .int (nI le), .int (nI sp), .ref ((h 5)), .ref ((h 6)), .int (nI ro), .ref ((h 7)), .ref ((h 8)), .ref ((h 9)), .ref ((h 10)), .ref ((h 11)), .ref ((h 12)), .ref ((h 13))])), ((h 1), .inl (cI, 99, .inl (sA F))), ((h 2), .inl (cI, 99, .inl fr)), ((h 3), .inl (cI, 594, .inl (kA Q))), ((h 4), .inl (cI, 200, .inl (fun zz => nI (ft zz)))), ((h 5), .inl (cI, 12, .inl (fun zz => nI (B zz)))), ((h 6), .inl (cI, 12, .inl (fun zz => nI (Bt zz)))), ((h 7), .inl (cJ, 16, .inr (.inl W))), ((h 8), .inl (cJ, 16, .inr (.inl M))), ((h 9), .inl (cI, 9, .inl (fun zz => nI (a1 zz)))), ((h 10), .inl (cI, 9, .inl (fun zz => nI (a2 zz)))), ((h 11), .inl (cI, 198, .inl (fun zz => nI (a3 zz)))), ((h 12), .inl (cI, 9, .inl (fun zz => nI (a4 zz)))), ((h 13), .inl (cI, 9, .inl (fA a5)))] (S := Unit) (fun _ => True) (fun _ => some (.int (nI (F (5 + 5 * j + 1))))) (fun _ => [((h 0), .inr (6, [.ref ((h 1)), .ref ((h 2)), .ref ((h 3)), .int (nI km), .ref ((h 4)), .int (nI le), .int (nI sp), .ref ((h 5)), .ref ((h 6)), .int (nI ro), .ref ((h 7)), .ref ((h 8)), .ref ((h 9)), .ref ((h 10)), .ref ((h 11)), .ref ((h 12)), .ref ((h 13))])), ((h 1), .inl (cI, 99, .inl (sA F))), ((h 2), .inl (cI, 99, .inl fr)), ((h 3), .inl (cI, 594, .inl (kA Q))), ((h 4), .inl (cI, 200, .inl (fun zz => nI (ft zz)))), ((h 5), .inl (cI, 12, .inl (fun zz => nI (B zz)))), ((h 6), .inl (cI, 12, .inl (fun zz => nI (Bt zz)))), ((h 7), .inl (cJ, 16, .inr (.inl W))), ((h 8), .inl (cJ, 16, .inr (.inl M))), ((h 9), .inl (cI, 9, .inl (fun zz => nI (a1 zz)))), ((h 10), .inl (cI, 9, .inl (fun zz => nI (a2 zz)))), ((h 11), .inl (cI, 198, .inl (fun zz => nI (a3 zz)))), ((h 12), .inl (cI, 9, .inl (fun zz => nI (a4 zz)))), ((h 13), .inl (cI, 9, .inl (fA a5)))]) := by
  refine Ct.of (lv := [(0, .ref ((h 0))), (1, .int (nI j))]) (by decide) rfl (Nat.le_of_ble_eq_true rfl) rfl ?_
  intro ε hL EE FF
  refine j_aload_n EE 0 dX10_ruleTop_0 rfl rfl ?_
  refine j_iload_n EE 1 dX10_ruleTop_1 rfl rfl ?_
  refine j_V2 (n9 := 14) EE (c_X10_isRule h F Q ft B Bt a1 a2 a3 a4 a5 fr W M km le sp ro (nI j) hFb) gX10_ruleTop_X10_isRule ⟨rfl, hd_X10_isRule⟩ rfl ⟨rfl, rfl⟩ ⟨by decide, by decide⟩ rfl [0, 1, 2, 3, 4, 5, 6, 7, 8, 9, 10, 11, 12, 13] rfl [] [((h 0), .inr (6, [.ref ((h 1)), .ref ((h 2)), .ref ((h 3)), .int (nI km), .ref ((h 4)), .int (nI le), .int (nI sp), .ref ((h 5)), .ref ((h 6)), .int (nI ro), .ref ((h 7)), .ref ((h 8)), .ref ((h 9)), .ref ((h 10)), .ref ((h 11)), .ref ((h 12)), .ref ((h 13))])), ((h 1), .inl (cI, 99, .inl (sA F))), ((h 2), .inl (cI, 99, .inl fr)), ((h 3), .inl (cI, 594, .inl (kA Q))), ((h 4), .inl (cI, 200, .inl (fun zz => nI (ft zz)))), ((h 5), .inl (cI, 12, .inl (fun zz => nI (B zz)))), ((h 6), .inl (cI, 12, .inl (fun zz => nI (Bt zz)))), ((h 7), .inl (cJ, 16, .inr (.inl W))), ((h 8), .inl (cJ, 16, .inr (.inl M))), ((h 9), .inl (cI, 9, .inl (fun zz => nI (a1 zz)))), ((h 10), .inl (cI, 9, .inl (fun zz => nI (a2 zz)))), ((h 11), .inl (cI, 198, .inl (fun zz => nI (a3 zz)))), ((h 12), .inl (cI, 9, .inl (fun zz => nI (a4 zz)))), ((h 13), .inl (cI, 9, .inl (fA a5)))] (fun _ => rfl) [] [(h 0), (h 1), (h 2), (h 3), (h 4), (h 5), (h 6), (h 7), (h 8), (h 9), (h 10), (h 11), (h 12), (h 13)] rfl rfl rfl rfl rfl (by decide) (by decide) 0 rfl rfl rfl (Nat.le_of_ble_eq_true rfl) dX10_ruleTop_2 (fun u_2 h_2 => ?_) rfl
  show J l _ D ε _ _ _ (.int (nI (b2n (inR (nI j) (F 4)))) :: _)
  refine j_if_eq EE 17 dX10_ruleTop_5 (by decide) (fun c5 => absurd c5 (by rw [inR_nI hj (by omega)]; decide)) (fun c5 => ?_)
  have n5 : (b2n (inR (nI j) (F 4))) ≠ 0 := fun hq => c5 ((nI_eq (a := (b2n (inR (nI j) (F 4)))) (b := 0) (by have := b2n_lt (inR (nI j) (F 4)); omega) (by have := b2n_lt (inR (nI j) (F 4)); omega)).mpr hq)
  refine j_aload_n EE 0 dX10_ruleTop_8 rfl rfl ?_
  refine j_iload_n EE 1 dX10_ruleTop_9 rfl rfl ?_
  refine j_iconst (v := nI 1) EE dX10_ruleTop_10 (by decide) ?_
  refine j_V2 (n9 := 14) EE (c_X10_ofRule h F Q ft B Bt a1 a2 a3 a4 a5 fr W M km le sp ro j 1 (by omega) (by omega)) gX10_ruleTop_X10_ofRule ⟨rfl, hd_X10_ofRule⟩ rfl ⟨rfl, rfl⟩ ⟨by decide, by decide⟩ rfl [0, 1, 2, 3, 4, 5, 6, 7, 8, 9, 10, 11, 12, 13] rfl [] [((h 0), .inr (6, [.ref ((h 1)), .ref ((h 2)), .ref ((h 3)), .int (nI km), .ref ((h 4)), .int (nI le), .int (nI sp), .ref ((h 5)), .ref ((h 6)), .int (nI ro), .ref ((h 7)), .ref ((h 8)), .ref ((h 9)), .ref ((h 10)), .ref ((h 11)), .ref ((h 12)), .ref ((h 13))])), ((h 1), .inl (cI, 99, .inl (sA F))), ((h 2), .inl (cI, 99, .inl fr)), ((h 3), .inl (cI, 594, .inl (kA Q))), ((h 4), .inl (cI, 200, .inl (fun zz => nI (ft zz)))), ((h 5), .inl (cI, 12, .inl (fun zz => nI (B zz)))), ((h 6), .inl (cI, 12, .inl (fun zz => nI (Bt zz)))), ((h 7), .inl (cJ, 16, .inr (.inl W))), ((h 8), .inl (cJ, 16, .inr (.inl M))), ((h 9), .inl (cI, 9, .inl (fun zz => nI (a1 zz)))), ((h 10), .inl (cI, 9, .inl (fun zz => nI (a2 zz)))), ((h 11), .inl (cI, 198, .inl (fun zz => nI (a3 zz)))), ((h 12), .inl (cI, 9, .inl (fun zz => nI (a4 zz)))), ((h 13), .inl (cI, 9, .inl (fA a5)))] (fun _ => rfl) [] [(h 0), (h 1), (h 2), (h 3), (h 4), (h 5), (h 6), (h 7), (h 8), (h 9), (h 10), (h 11), (h 12), (h 13)] rfl rfl rfl rfl rfl (by decide) (by decide) 0 rfl rfl rfl (Nat.le_of_ble_eq_true rfl) dX10_ruleTop_11 (fun u_11 h_11 => ?_) rfl
  show J l _ D ε _ _ _ (.int (nI (F (5 + 5 * j + 1))) :: _)
  refine j_goto EE 18 dX10_ruleTop_14 (by decide) ?_
  exact j_iret EE FF dX10_ruleTop_18 () trivial (by first | rfl | simp_all) rfl

set_option maxHeartbeats 4000000 in
set_option maxRecDepth 100000 in
theorem c_X10_ruleNextE (h F Q ft B Bt a1 a2 a3 a4 a5 : Nat → Nat) (fr : Nat → Int32) (W M : Nat → Int64) (km le sp ro : Nat) (x : Int32) (hFb : ∀ i, F i < 65536) (hi : inR x (F 4) = false) : Ct l yX10_ruleNext wsX10_ruleNext (rmD (3)) D [(cI, .int), (cC, .char), (cJ, .long), (cG, .object "PushdownGameSolver$Game")] [.ref ((h 0)), .int (x)] [((h 0), .inr (6, [.ref ((h 1)), .ref ((h 2)), .ref ((h 3)), .int (nI km), .ref ((h 4)), .int (nI le), .int (nI sp), .ref ((h 5)), .ref ((h 6)), .int (nI ro), .ref ((h 7)), .ref ((h 8)), .ref ((h 9)), .ref ((h 10)), .ref ((h 11)), .ref ((h 12)), .ref ((h 13))])), ((h 1), .inl (cI, 99, .inl (sA F))), ((h 2), .inl (cI, 99, .inl fr)), ((h 3), .inl (cI, 594, .inl (kA Q))), ((h 4), .inl (cI, 200, .inl (fun zz => nI (ft zz)))), ((h 5), .inl (cI, 12, .inl (fun zz => nI (B zz)))), ((h 6), .inl (cI, 12, .inl (fun zz => nI (Bt zz)))), ((h 7), .inl (cJ, 16, .inr (.inl W))), ((h 8), .inl (cJ, 16, .inr (.inl M))), ((h 9), .inl (cI, 9, .inl (fun zz => nI (a1 zz)))), ((h 10), .inl (cI, 9, .inl (fun zz => nI (a2 zz)))), ((h 11), .inl (cI, 198, .inl (fun zz => nI (a3 zz)))), ((h 12), .inl (cI, 9, .inl (fun zz => nI (a4 zz)))), ((h 13), .inl (cI, 9, .inl (fA a5)))] (S := Unit) (fun _ => True) (fun _ => some (.int ((-1)))) (fun _ => [((h 0), .inr (6, [.ref ((h 1)), .ref ((h 2)), .ref ((h 3)), .int (nI km), .ref ((h 4)), .int (nI le), .int (nI sp), .ref ((h 5)), .ref ((h 6)), .int (nI ro), .ref ((h 7)), .ref ((h 8)), .ref ((h 9)), .ref ((h 10)), .ref ((h 11)), .ref ((h 12)), .ref ((h 13))])), ((h 1), .inl (cI, 99, .inl (sA F))), ((h 2), .inl (cI, 99, .inl fr)), ((h 3), .inl (cI, 594, .inl (kA Q))), ((h 4), .inl (cI, 200, .inl (fun zz => nI (ft zz)))), ((h 5), .inl (cI, 12, .inl (fun zz => nI (B zz)))), ((h 6), .inl (cI, 12, .inl (fun zz => nI (Bt zz)))), ((h 7), .inl (cJ, 16, .inr (.inl W))), ((h 8), .inl (cJ, 16, .inr (.inl M))), ((h 9), .inl (cI, 9, .inl (fun zz => nI (a1 zz)))), ((h 10), .inl (cI, 9, .inl (fun zz => nI (a2 zz)))), ((h 11), .inl (cI, 198, .inl (fun zz => nI (a3 zz)))), ((h 12), .inl (cI, 9, .inl (fun zz => nI (a4 zz)))), ((h 13), .inl (cI, 9, .inl (fA a5)))]) := by
  refine Ct.of (lv := [(0, .ref ((h 0))), (1, .int (x))]) (by decide) rfl (Nat.le_of_ble_eq_true rfl) rfl ?_
  intro ε hL EE FF
  refine j_aload_n EE 0 dX10_ruleNext_0 rfl rfl ?_
  refine j_iload_n EE 1 dX10_ruleNext_1 rfl rfl ?_
  refine j_V2 (n9 := 14) EE (c_X10_isRule h F Q ft B Bt a1 a2 a3 a4 a5 fr W M km le sp ro x hFb) gX10_ruleNext_X10_isRule ⟨rfl, hd_X10_isRule⟩ rfl ⟨rfl, rfl⟩ ⟨by decide, by decide⟩ rfl [0, 1, 2, 3, 4, 5, 6, 7, 8, 9, 10, 11, 12, 13] rfl [] [((h 0), .inr (6, [.ref ((h 1)), .ref ((h 2)), .ref ((h 3)), .int (nI km), .ref ((h 4)), .int (nI le), .int (nI sp), .ref ((h 5)), .ref ((h 6)), .int (nI ro), .ref ((h 7)), .ref ((h 8)), .ref ((h 9)), .ref ((h 10)), .ref ((h 11)), .ref ((h 12)), .ref ((h 13))])), ((h 1), .inl (cI, 99, .inl (sA F))), ((h 2), .inl (cI, 99, .inl fr)), ((h 3), .inl (cI, 594, .inl (kA Q))), ((h 4), .inl (cI, 200, .inl (fun zz => nI (ft zz)))), ((h 5), .inl (cI, 12, .inl (fun zz => nI (B zz)))), ((h 6), .inl (cI, 12, .inl (fun zz => nI (Bt zz)))), ((h 7), .inl (cJ, 16, .inr (.inl W))), ((h 8), .inl (cJ, 16, .inr (.inl M))), ((h 9), .inl (cI, 9, .inl (fun zz => nI (a1 zz)))), ((h 10), .inl (cI, 9, .inl (fun zz => nI (a2 zz)))), ((h 11), .inl (cI, 198, .inl (fun zz => nI (a3 zz)))), ((h 12), .inl (cI, 9, .inl (fun zz => nI (a4 zz)))), ((h 13), .inl (cI, 9, .inl (fA a5)))] (fun _ => rfl) [] [(h 0), (h 1), (h 2), (h 3), (h 4), (h 5), (h 6), (h 7), (h 8), (h 9), (h 10), (h 11), (h 12), (h 13)] rfl rfl rfl rfl rfl (by decide) (by decide) 0 rfl rfl rfl (Nat.le_of_ble_eq_true rfl) dX10_ruleNext_2 (fun u_2 h_2 => ?_) rfl
  show J l _ D ε _ _ _ (.int (nI (b2n (inR x (F 4)))) :: _)
  refine j_if_eq EE 17 dX10_ruleNext_5 (by decide) (fun c5 => ?_) (fun c5 => absurd (by rw [hi]; rfl) c5)
  have n5 : (b2n (inR x (F 4))) = 0 := (nI_eq (a := (b2n (inR x (F 4)))) (b := 0) (by have := b2n_lt (inR x (F 4)); omega) (by have := b2n_lt (inR x (F 4)); omega)).mp c5
  refine j_iconst (v := (-1)) EE dX10_ruleNext_17 (by decide) ?_
  exact j_iret EE FF dX10_ruleNext_18 () trivial (by first | rfl | simp_all) rfl

set_option maxHeartbeats 4000000 in
set_option maxRecDepth 100000 in
theorem c_X10_ruleNext (h F Q ft B Bt a1 a2 a3 a4 a5 : Nat → Nat) (fr : Nat → Int32) (W M : Nat → Int64) (km le sp ro : Nat) (j : Nat) (hFb : ∀ i, F i < 65536) (hj : j < F 4) (hn : F 4 ≤ 16) : Ct l yX10_ruleNext wsX10_ruleNext (rmD (3)) D [(cI, .int), (cC, .char), (cJ, .long), (cG, .object "PushdownGameSolver$Game")] [.ref ((h 0)), .int (nI j)] [((h 0), .inr (6, [.ref ((h 1)), .ref ((h 2)), .ref ((h 3)), .int (nI km), .ref ((h 4)), .int (nI le), .int (nI sp), .ref ((h 5)), .ref ((h 6)), .int (nI ro), .ref ((h 7)), .ref ((h 8)), .ref ((h 9)), .ref ((h 10)), .ref ((h 11)), .ref ((h 12)), .ref ((h 13))])), ((h 1), .inl (cI, 99, .inl (sA F))), ((h 2), .inl (cI, 99, .inl fr)), ((h 3), .inl (cI, 594, .inl (kA Q))), ((h 4), .inl (cI, 200, .inl (fun zz => nI (ft zz)))), ((h 5), .inl (cI, 12, .inl (fun zz => nI (B zz)))), ((h 6), .inl (cI, 12, .inl (fun zz => nI (Bt zz)))), ((h 7), .inl (cJ, 16, .inr (.inl W))), ((h 8), .inl (cJ, 16, .inr (.inl M))), ((h 9), .inl (cI, 9, .inl (fun zz => nI (a1 zz)))), ((h 10), .inl (cI, 9, .inl (fun zz => nI (a2 zz)))), ((h 11), .inl (cI, 198, .inl (fun zz => nI (a3 zz)))), ((h 12), .inl (cI, 9, .inl (fun zz => nI (a4 zz)))), ((h 13), .inl (cI, 9, .inl (fA a5)))] (S := Unit) (fun _ => True) (fun _ => some (.int (nI (F (5 + 5 * j + 2))))) (fun _ => [((h 0), .inr (6, [.ref ((h 1)), .ref ((h 2)), .ref ((h 3)), .int (nI km), .ref ((h 4)), .int (nI le), .int (nI sp), .ref ((h 5)), .ref ((h 6)), .int (nI ro), .ref ((h 7)), .ref ((h 8)), .ref ((h 9)), .ref ((h 10)), .ref ((h 11)), .ref ((h 12)), .ref ((h 13))])), ((h 1), .inl (cI, 99, .inl (sA F))), ((h 2), .inl (cI, 99, .inl fr)), ((h 3), .inl (cI, 594, .inl (kA Q))), ((h 4), .inl (cI, 200, .inl (fun zz => nI (ft zz)))), ((h 5), .inl (cI, 12, .inl (fun zz => nI (B zz)))), ((h 6), .inl (cI, 12, .inl (fun zz => nI (Bt zz)))), ((h 7), .inl (cJ, 16, .inr (.inl W))), ((h 8), .inl (cJ, 16, .inr (.inl M))), ((h 9), .inl (cI, 9, .inl (fun zz => nI (a1 zz)))), ((h 10), .inl (cI, 9, .inl (fun zz => nI (a2 zz)))), ((h 11), .inl (cI, 198, .inl (fun zz => nI (a3 zz)))), ((h 12), .inl (cI, 9, .inl (fun zz => nI (a4 zz)))), ((h 13), .inl (cI, 9, .inl (fA a5)))]) := by
  refine Ct.of (lv := [(0, .ref ((h 0))), (1, .int (nI j))]) (by decide) rfl (Nat.le_of_ble_eq_true rfl) rfl ?_
  intro ε hL EE FF
  refine j_aload_n EE 0 dX10_ruleNext_0 rfl rfl ?_
  refine j_iload_n EE 1 dX10_ruleNext_1 rfl rfl ?_
  refine j_V2 (n9 := 14) EE (c_X10_isRule h F Q ft B Bt a1 a2 a3 a4 a5 fr W M km le sp ro (nI j) hFb) gX10_ruleNext_X10_isRule ⟨rfl, hd_X10_isRule⟩ rfl ⟨rfl, rfl⟩ ⟨by decide, by decide⟩ rfl [0, 1, 2, 3, 4, 5, 6, 7, 8, 9, 10, 11, 12, 13] rfl [] [((h 0), .inr (6, [.ref ((h 1)), .ref ((h 2)), .ref ((h 3)), .int (nI km), .ref ((h 4)), .int (nI le), .int (nI sp), .ref ((h 5)), .ref ((h 6)), .int (nI ro), .ref ((h 7)), .ref ((h 8)), .ref ((h 9)), .ref ((h 10)), .ref ((h 11)), .ref ((h 12)), .ref ((h 13))])), ((h 1), .inl (cI, 99, .inl (sA F))), ((h 2), .inl (cI, 99, .inl fr)), ((h 3), .inl (cI, 594, .inl (kA Q))), ((h 4), .inl (cI, 200, .inl (fun zz => nI (ft zz)))), ((h 5), .inl (cI, 12, .inl (fun zz => nI (B zz)))), ((h 6), .inl (cI, 12, .inl (fun zz => nI (Bt zz)))), ((h 7), .inl (cJ, 16, .inr (.inl W))), ((h 8), .inl (cJ, 16, .inr (.inl M))), ((h 9), .inl (cI, 9, .inl (fun zz => nI (a1 zz)))), ((h 10), .inl (cI, 9, .inl (fun zz => nI (a2 zz)))), ((h 11), .inl (cI, 198, .inl (fun zz => nI (a3 zz)))), ((h 12), .inl (cI, 9, .inl (fun zz => nI (a4 zz)))), ((h 13), .inl (cI, 9, .inl (fA a5)))] (fun _ => rfl) [] [(h 0), (h 1), (h 2), (h 3), (h 4), (h 5), (h 6), (h 7), (h 8), (h 9), (h 10), (h 11), (h 12), (h 13)] rfl rfl rfl rfl rfl (by decide) (by decide) 0 rfl rfl rfl (Nat.le_of_ble_eq_true rfl) dX10_ruleNext_2 (fun u_2 h_2 => ?_) rfl
  show J l _ D ε _ _ _ (.int (nI (b2n (inR (nI j) (F 4)))) :: _)
  refine j_if_eq EE 17 dX10_ruleNext_5 (by decide) (fun c5 => absurd c5 (by rw [inR_nI hj (by omega)]; decide)) (fun c5 => ?_)
  have n5 : (b2n (inR (nI j) (F 4))) ≠ 0 := fun hq => c5 ((nI_eq (a := (b2n (inR (nI j) (F 4)))) (b := 0) (by have := b2n_lt (inR (nI j) (F 4)); omega) (by have := b2n_lt (inR (nI j) (F 4)); omega)).mpr hq)
  refine j_aload_n EE 0 dX10_ruleNext_8 rfl rfl ?_
  refine j_iload_n EE 1 dX10_ruleNext_9 rfl rfl ?_
  refine j_iconst (v := nI 2) EE dX10_ruleNext_10 (by decide) ?_
  refine j_V2 (n9 := 14) EE (c_X10_ofRule h F Q ft B Bt a1 a2 a3 a4 a5 fr W M km le sp ro j 2 (by omega) (by omega)) gX10_ruleNext_X10_ofRule ⟨rfl, hd_X10_ofRule⟩ rfl ⟨rfl, rfl⟩ ⟨by decide, by decide⟩ rfl [0, 1, 2, 3, 4, 5, 6, 7, 8, 9, 10, 11, 12, 13] rfl [] [((h 0), .inr (6, [.ref ((h 1)), .ref ((h 2)), .ref ((h 3)), .int (nI km), .ref ((h 4)), .int (nI le), .int (nI sp), .ref ((h 5)), .ref ((h 6)), .int (nI ro), .ref ((h 7)), .ref ((h 8)), .ref ((h 9)), .ref ((h 10)), .ref ((h 11)), .ref ((h 12)), .ref ((h 13))])), ((h 1), .inl (cI, 99, .inl (sA F))), ((h 2), .inl (cI, 99, .inl fr)), ((h 3), .inl (cI, 594, .inl (kA Q))), ((h 4), .inl (cI, 200, .inl (fun zz => nI (ft zz)))), ((h 5), .inl (cI, 12, .inl (fun zz => nI (B zz)))), ((h 6), .inl (cI, 12, .inl (fun zz => nI (Bt zz)))), ((h 7), .inl (cJ, 16, .inr (.inl W))), ((h 8), .inl (cJ, 16, .inr (.inl M))), ((h 9), .inl (cI, 9, .inl (fun zz => nI (a1 zz)))), ((h 10), .inl (cI, 9, .inl (fun zz => nI (a2 zz)))), ((h 11), .inl (cI, 198, .inl (fun zz => nI (a3 zz)))), ((h 12), .inl (cI, 9, .inl (fun zz => nI (a4 zz)))), ((h 13), .inl (cI, 9, .inl (fA a5)))] (fun _ => rfl) [] [(h 0), (h 1), (h 2), (h 3), (h 4), (h 5), (h 6), (h 7), (h 8), (h 9), (h 10), (h 11), (h 12), (h 13)] rfl rfl rfl rfl rfl (by decide) (by decide) 0 rfl rfl rfl (Nat.le_of_ble_eq_true rfl) dX10_ruleNext_11 (fun u_11 h_11 => ?_) rfl
  show J l _ D ε _ _ _ (.int (nI (F (5 + 5 * j + 2))) :: _)
  refine j_goto EE 18 dX10_ruleNext_14 (by decide) ?_
  exact j_iret EE FF dX10_ruleNext_18 () trivial (by first | rfl | simp_all) rfl

set_option maxHeartbeats 4000000 in
set_option maxRecDepth 100000 in
theorem c_X10_ruleSymbolE (h F Q ft B Bt a1 a2 a3 a4 a5 : Nat → Nat) (fr : Nat → Int32) (W M : Nat → Int64) (km le sp ro : Nat) (x y : Int32) (hFb : ∀ i, F i < 65536) (hi : inR x (F 4) = false ∨ inR y 2 = false) : Ct l yX10_ruleSymbol wsX10_ruleSymbol (rmD (3)) D [(cI, .int), (cC, .char), (cJ, .long), (cG, .object "PushdownGameSolver$Game")] [.ref ((h 0)), .int (x), .int (y)] [((h 0), .inr (6, [.ref ((h 1)), .ref ((h 2)), .ref ((h 3)), .int (nI km), .ref ((h 4)), .int (nI le), .int (nI sp), .ref ((h 5)), .ref ((h 6)), .int (nI ro), .ref ((h 7)), .ref ((h 8)), .ref ((h 9)), .ref ((h 10)), .ref ((h 11)), .ref ((h 12)), .ref ((h 13))])), ((h 1), .inl (cI, 99, .inl (sA F))), ((h 2), .inl (cI, 99, .inl fr)), ((h 3), .inl (cI, 594, .inl (kA Q))), ((h 4), .inl (cI, 200, .inl (fun zz => nI (ft zz)))), ((h 5), .inl (cI, 12, .inl (fun zz => nI (B zz)))), ((h 6), .inl (cI, 12, .inl (fun zz => nI (Bt zz)))), ((h 7), .inl (cJ, 16, .inr (.inl W))), ((h 8), .inl (cJ, 16, .inr (.inl M))), ((h 9), .inl (cI, 9, .inl (fun zz => nI (a1 zz)))), ((h 10), .inl (cI, 9, .inl (fun zz => nI (a2 zz)))), ((h 11), .inl (cI, 198, .inl (fun zz => nI (a3 zz)))), ((h 12), .inl (cI, 9, .inl (fun zz => nI (a4 zz)))), ((h 13), .inl (cI, 9, .inl (fA a5)))] (S := Unit) (fun _ => True) (fun _ => some (.int ((-1)))) (fun _ => [((h 0), .inr (6, [.ref ((h 1)), .ref ((h 2)), .ref ((h 3)), .int (nI km), .ref ((h 4)), .int (nI le), .int (nI sp), .ref ((h 5)), .ref ((h 6)), .int (nI ro), .ref ((h 7)), .ref ((h 8)), .ref ((h 9)), .ref ((h 10)), .ref ((h 11)), .ref ((h 12)), .ref ((h 13))])), ((h 1), .inl (cI, 99, .inl (sA F))), ((h 2), .inl (cI, 99, .inl fr)), ((h 3), .inl (cI, 594, .inl (kA Q))), ((h 4), .inl (cI, 200, .inl (fun zz => nI (ft zz)))), ((h 5), .inl (cI, 12, .inl (fun zz => nI (B zz)))), ((h 6), .inl (cI, 12, .inl (fun zz => nI (Bt zz)))), ((h 7), .inl (cJ, 16, .inr (.inl W))), ((h 8), .inl (cJ, 16, .inr (.inl M))), ((h 9), .inl (cI, 9, .inl (fun zz => nI (a1 zz)))), ((h 10), .inl (cI, 9, .inl (fun zz => nI (a2 zz)))), ((h 11), .inl (cI, 198, .inl (fun zz => nI (a3 zz)))), ((h 12), .inl (cI, 9, .inl (fun zz => nI (a4 zz)))), ((h 13), .inl (cI, 9, .inl (fA a5)))]) := by
  refine Ct.of (lv := [(0, .ref ((h 0))), (1, .int (x)), (2, .int (y))]) (by decide) rfl (Nat.le_of_ble_eq_true rfl) rfl ?_
  intro ε hL EE FF
  refine j_aload_n EE 0 dX10_ruleSymbol_0 rfl rfl ?_
  refine j_iload_n EE 1 dX10_ruleSymbol_1 rfl rfl ?_
  refine j_V2 (n9 := 14) EE (c_X10_isRule h F Q ft B Bt a1 a2 a3 a4 a5 fr W M km le sp ro x hFb) gX10_ruleSymbol_X10_isRule ⟨rfl, hd_X10_isRule⟩ rfl ⟨rfl, rfl⟩ ⟨by decide, by decide⟩ rfl [0, 1, 2, 3, 4, 5, 6, 7, 8, 9, 10, 11, 12, 13] rfl [] [((h 0), .inr (6, [.ref ((h 1)), .ref ((h 2)), .ref ((h 3)), .int (nI km), .ref ((h 4)), .int (nI le), .int (nI sp), .ref ((h 5)), .ref ((h 6)), .int (nI ro), .ref ((h 7)), .ref ((h 8)), .ref ((h 9)), .ref ((h 10)), .ref ((h 11)), .ref ((h 12)), .ref ((h 13))])), ((h 1), .inl (cI, 99, .inl (sA F))), ((h 2), .inl (cI, 99, .inl fr)), ((h 3), .inl (cI, 594, .inl (kA Q))), ((h 4), .inl (cI, 200, .inl (fun zz => nI (ft zz)))), ((h 5), .inl (cI, 12, .inl (fun zz => nI (B zz)))), ((h 6), .inl (cI, 12, .inl (fun zz => nI (Bt zz)))), ((h 7), .inl (cJ, 16, .inr (.inl W))), ((h 8), .inl (cJ, 16, .inr (.inl M))), ((h 9), .inl (cI, 9, .inl (fun zz => nI (a1 zz)))), ((h 10), .inl (cI, 9, .inl (fun zz => nI (a2 zz)))), ((h 11), .inl (cI, 198, .inl (fun zz => nI (a3 zz)))), ((h 12), .inl (cI, 9, .inl (fun zz => nI (a4 zz)))), ((h 13), .inl (cI, 9, .inl (fA a5)))] (fun _ => rfl) [] [(h 0), (h 1), (h 2), (h 3), (h 4), (h 5), (h 6), (h 7), (h 8), (h 9), (h 10), (h 11), (h 12), (h 13)] rfl rfl rfl rfl rfl (by decide) (by decide) 0 rfl rfl rfl (Nat.le_of_ble_eq_true rfl) dX10_ruleSymbol_2 (fun u_2 h_2 => ?_) rfl
  show J l _ D ε _ _ _ (.int (nI (b2n (inR x (F 4)))) :: _)
  refine j_if_eq EE 18 dX10_ruleSymbol_5 (by decide) (fun c5 => ?_) (fun c5 => ?_)
  · skip
    have n5 : (b2n (inR x (F 4))) = 0 := (nI_eq (a := (b2n (inR x (F 4)))) (b := 0) (by have := b2n_lt (inR x (F 4)); omega) (by have := b2n_lt (inR x (F 4)); omega)).mp c5
    refine j_iconst (v := (-1)) EE dX10_ruleSymbol_18 (by decide) ?_
    exact j_iret EE FF dX10_ruleSymbol_19 () trivial (by first | rfl | simp_all) rfl
  · skip
    have n5 : (b2n (inR x (F 4))) ≠ 0 := fun hq => c5 ((nI_eq (a := (b2n (inR x (F 4)))) (b := 0) (by have := b2n_lt (inR x (F 4)); omega) (by have := b2n_lt (inR x (F 4)); omega)).mpr hq)
    refine j_iload_n EE 2 dX10_ruleSymbol_8 rfl rfl ?_
    refine j_i2l EE dX10_ruleSymbol_9 ?_
    refine j_lconst (v := lN 0) EE dX10_ruleSymbol_10 (by decide) ?_
    refine j_lconst (v := lN 1) EE dX10_ruleSymbol_11 (by decide) ?_
    refine j_S2 (n9 := 14) EE (c_X10_in ((y).toInt64) (lN 0) (lN 1)) gX10_ruleSymbol_X10_in hd_X10_in rfl ⟨rfl, rfl⟩ ⟨by decide, by decide⟩ rfl [] rfl [0, 1, 2, 3, 4, 5, 6, 7, 8, 9, 10, 11, 12, 13] [((h 0), .inr (6, [.ref ((h 1)), .ref ((h 2)), .ref ((h 3)), .int (nI km), .ref ((h 4)), .int (nI le), .int (nI sp), .ref ((h 5)), .ref ((h 6)), .int (nI ro), .ref ((h 7)), .ref ((h 8)), .ref ((h 9)), .ref ((h 10)), .ref ((h 11)), .ref ((h 12)), .ref ((h 13))])), ((h 1), .inl (cI, 99, .inl (sA F))), ((h 2), .inl (cI, 99, .inl fr)), ((h 3), .inl (cI, 594, .inl (kA Q))), ((h 4), .inl (cI, 200, .inl (fun zz => nI (ft zz)))), ((h 5), .inl (cI, 12, .inl (fun zz => nI (B zz)))), ((h 6), .inl (cI, 12, .inl (fun zz => nI (Bt zz)))), ((h 7), .inl (cJ, 16, .inr (.inl W))), ((h 8), .inl (cJ, 16, .inr (.inl M))), ((h 9), .inl (cI, 9, .inl (fun zz => nI (a1 zz)))), ((h 10), .inl (cI, 9, .inl (fun zz => nI (a2 zz)))), ((h 11), .inl (cI, 198, .inl (fun zz => nI (a3 zz)))), ((h 12), .inl (cI, 9, .inl (fun zz => nI (a4 zz)))), ((h 13), .inl (cI, 9, .inl (fA a5)))] (fun _ => rfl) [((h 0), .inr (6, [.ref ((h 1)), .ref ((h 2)), .ref ((h 3)), .int (nI km), .ref ((h 4)), .int (nI le), .int (nI sp), .ref ((h 5)), .ref ((h 6)), .int (nI ro), .ref ((h 7)), .ref ((h 8)), .ref ((h 9)), .ref ((h 10)), .ref ((h 11)), .ref ((h 12)), .ref ((h 13))])), ((h 1), .inl (cI, 99, .inl (sA F))), ((h 2), .inl (cI, 99, .inl fr)), ((h 3), .inl (cI, 594, .inl (kA Q))), ((h 4), .inl (cI, 200, .inl (fun zz => nI (ft zz)))), ((h 5), .inl (cI, 12, .inl (fun zz => nI (B zz)))), ((h 6), .inl (cI, 12, .inl (fun zz => nI (Bt zz)))), ((h 7), .inl (cJ, 16, .inr (.inl W))), ((h 8), .inl (cJ, 16, .inr (.inl M))), ((h 9), .inl (cI, 9, .inl (fun zz => nI (a1 zz)))), ((h 10), .inl (cI, 9, .inl (fun zz => nI (a2 zz)))), ((h 11), .inl (cI, 198, .inl (fun zz => nI (a3 zz)))), ((h 12), .inl (cI, 9, .inl (fun zz => nI (a4 zz)))), ((h 13), .inl (cI, 9, .inl (fA a5)))] [(h 0), (h 1), (h 2), (h 3), (h 4), (h 5), (h 6), (h 7), (h 8), (h 9), (h 10), (h 11), (h 12), (h 13)] rfl rfl rfl rfl rfl (by decide) (by decide) rfl (Nat.le_of_ble_eq_true rfl) dX10_ruleSymbol_12 (fun u_12 h_12 => ?_) rfl
    show J l _ D ε _ _ _ (.int (if lN 0 ≤ (y).toInt64 ∧ (y).toInt64 ≤ lN 1 then nI 1 else nI 0) :: _)
    refine j_topE (y := nI (b2n (inR y 2))) (in_01 y) ?_
    show J l _ D ε _ _ _ (.int (nI (b2n (inR y 2))) :: _)
    refine j_if_ne EE 20 dX10_ruleSymbol_15 (by decide) (fun c15 => absurd (by rw [hi.resolve_left (by rw [b2n_ne0 n5]; decide)]; rfl) c15) (fun c15 => ?_)
    have n15 : (b2n (inR y 2)) = 0 := (nI_eq (a := (b2n (inR y 2))) (b := 0) (by have := b2n_lt (inR y 2); omega) (by have := b2n_lt (inR y 2); omega)).mp c15
    refine j_iconst (v := (-1)) EE dX10_ruleSymbol_18 (by decide) ?_
    exact j_iret EE FF dX10_ruleSymbol_19 () trivial (by first | rfl | simp_all) rfl

set_option maxHeartbeats 4000000 in
set_option maxRecDepth 100000 in
theorem c_X10_ruleSymbol0 (h F Q ft B Bt a1 a2 a3 a4 a5 : Nat → Nat) (fr : Nat → Int32) (W M : Nat → Int64) (km le sp ro : Nat) (j : Nat) (hFb : ∀ i, F i < 65536) (hj : j < F 4) (hn : F 4 ≤ 16) : Ct l yX10_ruleSymbol wsX10_ruleSymbol (rmD (3)) D [(cI, .int), (cC, .char), (cJ, .long), (cG, .object "PushdownGameSolver$Game")] [.ref ((h 0)), .int (nI j), .int (nI 0)] [((h 0), .inr (6, [.ref ((h 1)), .ref ((h 2)), .ref ((h 3)), .int (nI km), .ref ((h 4)), .int (nI le), .int (nI sp), .ref ((h 5)), .ref ((h 6)), .int (nI ro), .ref ((h 7)), .ref ((h 8)), .ref ((h 9)), .ref ((h 10)), .ref ((h 11)), .ref ((h 12)), .ref ((h 13))])), ((h 1), .inl (cI, 99, .inl (sA F))), ((h 2), .inl (cI, 99, .inl fr)), ((h 3), .inl (cI, 594, .inl (kA Q))), ((h 4), .inl (cI, 200, .inl (fun zz => nI (ft zz)))), ((h 5), .inl (cI, 12, .inl (fun zz => nI (B zz)))), ((h 6), .inl (cI, 12, .inl (fun zz => nI (Bt zz)))), ((h 7), .inl (cJ, 16, .inr (.inl W))), ((h 8), .inl (cJ, 16, .inr (.inl M))), ((h 9), .inl (cI, 9, .inl (fun zz => nI (a1 zz)))), ((h 10), .inl (cI, 9, .inl (fun zz => nI (a2 zz)))), ((h 11), .inl (cI, 198, .inl (fun zz => nI (a3 zz)))), ((h 12), .inl (cI, 9, .inl (fun zz => nI (a4 zz)))), ((h 13), .inl (cI, 9, .inl (fA a5)))] (S := Unit) (fun _ => True) (fun _ => some (.int (if F (5 + 5 * j + 3) = 0 then (-4) else nI (F (5 + 5 * j + 3)) - nI 1))) (fun _ => [((h 0), .inr (6, [.ref ((h 1)), .ref ((h 2)), .ref ((h 3)), .int (nI km), .ref ((h 4)), .int (nI le), .int (nI sp), .ref ((h 5)), .ref ((h 6)), .int (nI ro), .ref ((h 7)), .ref ((h 8)), .ref ((h 9)), .ref ((h 10)), .ref ((h 11)), .ref ((h 12)), .ref ((h 13))])), ((h 1), .inl (cI, 99, .inl (sA F))), ((h 2), .inl (cI, 99, .inl fr)), ((h 3), .inl (cI, 594, .inl (kA Q))), ((h 4), .inl (cI, 200, .inl (fun zz => nI (ft zz)))), ((h 5), .inl (cI, 12, .inl (fun zz => nI (B zz)))), ((h 6), .inl (cI, 12, .inl (fun zz => nI (Bt zz)))), ((h 7), .inl (cJ, 16, .inr (.inl W))), ((h 8), .inl (cJ, 16, .inr (.inl M))), ((h 9), .inl (cI, 9, .inl (fun zz => nI (a1 zz)))), ((h 10), .inl (cI, 9, .inl (fun zz => nI (a2 zz)))), ((h 11), .inl (cI, 198, .inl (fun zz => nI (a3 zz)))), ((h 12), .inl (cI, 9, .inl (fun zz => nI (a4 zz)))), ((h 13), .inl (cI, 9, .inl (fA a5)))]) := by
  refine Ct.of (lv := [(0, .ref ((h 0))), (1, .int (nI j)), (2, .int (nI 0))]) (by decide) rfl (Nat.le_of_ble_eq_true rfl) rfl ?_
  intro ε hL EE FF
  refine j_aload_n EE 0 dX10_ruleSymbol_0 rfl rfl ?_
  refine j_iload_n EE 1 dX10_ruleSymbol_1 rfl rfl ?_
  refine j_V2 (n9 := 14) EE (c_X10_isRule h F Q ft B Bt a1 a2 a3 a4 a5 fr W M km le sp ro (nI j) hFb) gX10_ruleSymbol_X10_isRule ⟨rfl, hd_X10_isRule⟩ rfl ⟨rfl, rfl⟩ ⟨by decide, by decide⟩ rfl [0, 1, 2, 3, 4, 5, 6, 7, 8, 9, 10, 11, 12, 13] rfl [] [((h 0), .inr (6, [.ref ((h 1)), .ref ((h 2)), .ref ((h 3)), .int (nI km), .ref ((h 4)), .int (nI le), .int (nI sp), .ref ((h 5)), .ref ((h 6)), .int (nI ro), .ref ((h 7)), .ref ((h 8)), .ref ((h 9)), .ref ((h 10)), .ref ((h 11)), .ref ((h 12)), .ref ((h 13))])), ((h 1), .inl (cI, 99, .inl (sA F))), ((h 2), .inl (cI, 99, .inl fr)), ((h 3), .inl (cI, 594, .inl (kA Q))), ((h 4), .inl (cI, 200, .inl (fun zz => nI (ft zz)))), ((h 5), .inl (cI, 12, .inl (fun zz => nI (B zz)))), ((h 6), .inl (cI, 12, .inl (fun zz => nI (Bt zz)))), ((h 7), .inl (cJ, 16, .inr (.inl W))), ((h 8), .inl (cJ, 16, .inr (.inl M))), ((h 9), .inl (cI, 9, .inl (fun zz => nI (a1 zz)))), ((h 10), .inl (cI, 9, .inl (fun zz => nI (a2 zz)))), ((h 11), .inl (cI, 198, .inl (fun zz => nI (a3 zz)))), ((h 12), .inl (cI, 9, .inl (fun zz => nI (a4 zz)))), ((h 13), .inl (cI, 9, .inl (fA a5)))] (fun _ => rfl) [] [(h 0), (h 1), (h 2), (h 3), (h 4), (h 5), (h 6), (h 7), (h 8), (h 9), (h 10), (h 11), (h 12), (h 13)] rfl rfl rfl rfl rfl (by decide) (by decide) 0 rfl rfl rfl (Nat.le_of_ble_eq_true rfl) dX10_ruleSymbol_2 (fun u_2 h_2 => ?_) rfl
  show J l _ D ε _ _ _ (.int (nI (b2n (inR (nI j) (F 4)))) :: _)
  refine j_if_eq EE 18 dX10_ruleSymbol_5 (by decide) (fun c5 => absurd c5 (by rw [inR_nI hj (by omega)]; decide)) (fun c5 => ?_)
  have n5 : (b2n (inR (nI j) (F 4))) ≠ 0 := fun hq => c5 ((nI_eq (a := (b2n (inR (nI j) (F 4)))) (b := 0) (by have := b2n_lt (inR (nI j) (F 4)); omega) (by have := b2n_lt (inR (nI j) (F 4)); omega)).mpr hq)
  refine j_iload_n EE 2 dX10_ruleSymbol_8 rfl rfl ?_
  refine j_i2l EE dX10_ruleSymbol_9 ?_
  refine j_lconst (v := lN 0) EE dX10_ruleSymbol_10 (by decide) ?_
  refine j_lconst (v := lN 1) EE dX10_ruleSymbol_11 (by decide) ?_
  refine j_S2 (n9 := 14) EE (c_X10_in ((nI 0).toInt64) (lN 0) (lN 1)) gX10_ruleSymbol_X10_in hd_X10_in rfl ⟨rfl, rfl⟩ ⟨by decide, by decide⟩ rfl [] rfl [0, 1, 2, 3, 4, 5, 6, 7, 8, 9, 10, 11, 12, 13] [((h 0), .inr (6, [.ref ((h 1)), .ref ((h 2)), .ref ((h 3)), .int (nI km), .ref ((h 4)), .int (nI le), .int (nI sp), .ref ((h 5)), .ref ((h 6)), .int (nI ro), .ref ((h 7)), .ref ((h 8)), .ref ((h 9)), .ref ((h 10)), .ref ((h 11)), .ref ((h 12)), .ref ((h 13))])), ((h 1), .inl (cI, 99, .inl (sA F))), ((h 2), .inl (cI, 99, .inl fr)), ((h 3), .inl (cI, 594, .inl (kA Q))), ((h 4), .inl (cI, 200, .inl (fun zz => nI (ft zz)))), ((h 5), .inl (cI, 12, .inl (fun zz => nI (B zz)))), ((h 6), .inl (cI, 12, .inl (fun zz => nI (Bt zz)))), ((h 7), .inl (cJ, 16, .inr (.inl W))), ((h 8), .inl (cJ, 16, .inr (.inl M))), ((h 9), .inl (cI, 9, .inl (fun zz => nI (a1 zz)))), ((h 10), .inl (cI, 9, .inl (fun zz => nI (a2 zz)))), ((h 11), .inl (cI, 198, .inl (fun zz => nI (a3 zz)))), ((h 12), .inl (cI, 9, .inl (fun zz => nI (a4 zz)))), ((h 13), .inl (cI, 9, .inl (fA a5)))] (fun _ => rfl) [((h 0), .inr (6, [.ref ((h 1)), .ref ((h 2)), .ref ((h 3)), .int (nI km), .ref ((h 4)), .int (nI le), .int (nI sp), .ref ((h 5)), .ref ((h 6)), .int (nI ro), .ref ((h 7)), .ref ((h 8)), .ref ((h 9)), .ref ((h 10)), .ref ((h 11)), .ref ((h 12)), .ref ((h 13))])), ((h 1), .inl (cI, 99, .inl (sA F))), ((h 2), .inl (cI, 99, .inl fr)), ((h 3), .inl (cI, 594, .inl (kA Q))), ((h 4), .inl (cI, 200, .inl (fun zz => nI (ft zz)))), ((h 5), .inl (cI, 12, .inl (fun zz => nI (B zz)))), ((h 6), .inl (cI, 12, .inl (fun zz => nI (Bt zz)))), ((h 7), .inl (cJ, 16, .inr (.inl W))), ((h 8), .inl (cJ, 16, .inr (.inl M))), ((h 9), .inl (cI, 9, .inl (fun zz => nI (a1 zz)))), ((h 10), .inl (cI, 9, .inl (fun zz => nI (a2 zz)))), ((h 11), .inl (cI, 198, .inl (fun zz => nI (a3 zz)))), ((h 12), .inl (cI, 9, .inl (fun zz => nI (a4 zz)))), ((h 13), .inl (cI, 9, .inl (fA a5)))] [(h 0), (h 1), (h 2), (h 3), (h 4), (h 5), (h 6), (h 7), (h 8), (h 9), (h 10), (h 11), (h 12), (h 13)] rfl rfl rfl rfl rfl (by decide) (by decide) rfl (Nat.le_of_ble_eq_true rfl) dX10_ruleSymbol_12 (fun u_12 h_12 => ?_) rfl
  show J l _ D ε _ _ _ (.int (if lN 0 ≤ (nI 0).toInt64 ∧ (nI 0).toInt64 ≤ lN 1 then nI 1 else nI 0) :: _)
  refine j_topE (y := nI 1) (by decide) ?_
  show J l _ D ε _ _ _ (.int (nI 1) :: _)
  refine j_if_ne EE 20 dX10_ruleSymbol_15 (by decide) (fun c15 => ?_) (fun c15 => absurd c15 (by decide))
  have n15 : 1 ≠ 0 := fun hq => c15 ((nI_eq (a := 1) (b := 0) (by omega) (by omega)).mpr hq)
  refine j_aload_n EE 0 dX10_ruleSymbol_20 rfl rfl ?_
  refine j_iload_n EE 1 dX10_ruleSymbol_21 rfl rfl ?_
  refine j_iconst (v := nI 3) EE dX10_ruleSymbol_22 (by decide) ?_
  refine j_iload_n EE 2 dX10_ruleSymbol_23 rfl rfl ?_
  refine j_iadd EE dX10_ruleSymbol_24 ?_
  refine j_topE (y := nI 3) (by decide) ?_
  refine j_V2 (n9 := 14) EE (c_X10_ofRuleW h F Q ft B Bt a1 a2 a3 a4 a5 fr W M km le sp ro j 3 (by omega) (by omega) (by omega)) gX10_ruleSymbol_X10_ofRule ⟨rfl, hd_X10_ofRule⟩ rfl ⟨rfl, rfl⟩ ⟨by decide, by decide⟩ rfl [0, 1, 2, 3, 4, 5, 6, 7, 8, 9, 10, 11, 12, 13] rfl [] [((h 0), .inr (6, [.ref ((h 1)), .ref ((h 2)), .ref ((h 3)), .int (nI km), .ref ((h 4)), .int (nI le), .int (nI sp), .ref ((h 5)), .ref ((h 6)), .int (nI ro), .ref ((h 7)), .ref ((h 8)), .ref ((h 9)), .ref ((h 10)), .ref ((h 11)), .ref ((h 12)), .ref ((h 13))])), ((h 1), .inl (cI, 99, .inl (sA F))), ((h 2), .inl (cI, 99, .inl fr)), ((h 3), .inl (cI, 594, .inl (kA Q))), ((h 4), .inl (cI, 200, .inl (fun zz => nI (ft zz)))), ((h 5), .inl (cI, 12, .inl (fun zz => nI (B zz)))), ((h 6), .inl (cI, 12, .inl (fun zz => nI (Bt zz)))), ((h 7), .inl (cJ, 16, .inr (.inl W))), ((h 8), .inl (cJ, 16, .inr (.inl M))), ((h 9), .inl (cI, 9, .inl (fun zz => nI (a1 zz)))), ((h 10), .inl (cI, 9, .inl (fun zz => nI (a2 zz)))), ((h 11), .inl (cI, 198, .inl (fun zz => nI (a3 zz)))), ((h 12), .inl (cI, 9, .inl (fun zz => nI (a4 zz)))), ((h 13), .inl (cI, 9, .inl (fA a5)))] (fun _ => rfl) [] [(h 0), (h 1), (h 2), (h 3), (h 4), (h 5), (h 6), (h 7), (h 8), (h 9), (h 10), (h 11), (h 12), (h 13)] rfl rfl rfl rfl rfl (by decide) (by decide) 0 rfl rfl rfl (Nat.le_of_ble_eq_true rfl) dX10_ruleSymbol_25 (fun u_25 h_25 => ?_) rfl
  show J l _ D ε _ _ _ (.int (nI (F (5 + 5 * j + 3)) - nI 1) :: _)
  refine j_istore_n EE [(3, _), (0, _), (1, _), (2, _)] dX10_ruleSymbol_28 rfl (Nat.lt_of_lt_of_eq (by decide) hL.symm) rfl ?_
  refine j_iload_n EE 0 dX10_ruleSymbol_29 rfl rfl ?_
  refine j_iconst (v := (-1)) EE dX10_ruleSymbol_30 (by decide) ?_
  refine j_icmp_ne EE 39 dX10_ruleSymbol_31 (by decide) (fun c31 => ?_) (fun c31 => ?_)
  · skip
    have m31 := fun hq => c31 ((b_m1w (hFb (5 + 5 * j + 3))).mpr hq)
    refine j_iload_n EE 0 dX10_ruleSymbol_39 rfl rfl ?_
    exact j_iret EE FF dX10_ruleSymbol_40 () trivial (by first | rw [if_pos m31] | rw [if_neg m31]) rfl
  · skip
    have m31 := (b_m1w (hFb _)).mp c31
    refine j_bipush (v := (-4)) EE dX10_ruleSymbol_34 (by decide) ?_
    refine j_goto EE 40 dX10_ruleSymbol_36 (by decide) ?_
    exact j_iret EE FF dX10_ruleSymbol_40 () trivial (by first | rw [if_pos m31] | rw [if_neg m31]) rfl

set_option maxHeartbeats 4000000 in
set_option maxRecDepth 100000 in
theorem c_X10_ruleSymbol1 (h F Q ft B Bt a1 a2 a3 a4 a5 : Nat → Nat) (fr : Nat → Int32) (W M : Nat → Int64) (km le sp ro : Nat) (j : Nat) (hFb : ∀ i, F i < 65536) (hj : j < F 4) (hn : F 4 ≤ 16) : Ct l yX10_ruleSymbol wsX10_ruleSymbol (rmD (3)) D [(cI, .int), (cC, .char), (cJ, .long), (cG, .object "PushdownGameSolver$Game")] [.ref ((h 0)), .int (nI j), .int (nI 1)] [((h 0), .inr (6, [.ref ((h 1)), .ref ((h 2)), .ref ((h 3)), .int (nI km), .ref ((h 4)), .int (nI le), .int (nI sp), .ref ((h 5)), .ref ((h 6)), .int (nI ro), .ref ((h 7)), .ref ((h 8)), .ref ((h 9)), .ref ((h 10)), .ref ((h 11)), .ref ((h 12)), .ref ((h 13))])), ((h 1), .inl (cI, 99, .inl (sA F))), ((h 2), .inl (cI, 99, .inl fr)), ((h 3), .inl (cI, 594, .inl (kA Q))), ((h 4), .inl (cI, 200, .inl (fun zz => nI (ft zz)))), ((h 5), .inl (cI, 12, .inl (fun zz => nI (B zz)))), ((h 6), .inl (cI, 12, .inl (fun zz => nI (Bt zz)))), ((h 7), .inl (cJ, 16, .inr (.inl W))), ((h 8), .inl (cJ, 16, .inr (.inl M))), ((h 9), .inl (cI, 9, .inl (fun zz => nI (a1 zz)))), ((h 10), .inl (cI, 9, .inl (fun zz => nI (a2 zz)))), ((h 11), .inl (cI, 198, .inl (fun zz => nI (a3 zz)))), ((h 12), .inl (cI, 9, .inl (fun zz => nI (a4 zz)))), ((h 13), .inl (cI, 9, .inl (fA a5)))] (S := Unit) (fun _ => True) (fun _ => some (.int (if F (5 + 5 * j + 4) = 0 then (-4) else nI (F (5 + 5 * j + 4)) - nI 1))) (fun _ => [((h 0), .inr (6, [.ref ((h 1)), .ref ((h 2)), .ref ((h 3)), .int (nI km), .ref ((h 4)), .int (nI le), .int (nI sp), .ref ((h 5)), .ref ((h 6)), .int (nI ro), .ref ((h 7)), .ref ((h 8)), .ref ((h 9)), .ref ((h 10)), .ref ((h 11)), .ref ((h 12)), .ref ((h 13))])), ((h 1), .inl (cI, 99, .inl (sA F))), ((h 2), .inl (cI, 99, .inl fr)), ((h 3), .inl (cI, 594, .inl (kA Q))), ((h 4), .inl (cI, 200, .inl (fun zz => nI (ft zz)))), ((h 5), .inl (cI, 12, .inl (fun zz => nI (B zz)))), ((h 6), .inl (cI, 12, .inl (fun zz => nI (Bt zz)))), ((h 7), .inl (cJ, 16, .inr (.inl W))), ((h 8), .inl (cJ, 16, .inr (.inl M))), ((h 9), .inl (cI, 9, .inl (fun zz => nI (a1 zz)))), ((h 10), .inl (cI, 9, .inl (fun zz => nI (a2 zz)))), ((h 11), .inl (cI, 198, .inl (fun zz => nI (a3 zz)))), ((h 12), .inl (cI, 9, .inl (fun zz => nI (a4 zz)))), ((h 13), .inl (cI, 9, .inl (fA a5)))]) := by
  refine Ct.of (lv := [(0, .ref ((h 0))), (1, .int (nI j)), (2, .int (nI 1))]) (by decide) rfl (Nat.le_of_ble_eq_true rfl) rfl ?_
  intro ε hL EE FF
  refine j_aload_n EE 0 dX10_ruleSymbol_0 rfl rfl ?_
  refine j_iload_n EE 1 dX10_ruleSymbol_1 rfl rfl ?_
  refine j_V2 (n9 := 14) EE (c_X10_isRule h F Q ft B Bt a1 a2 a3 a4 a5 fr W M km le sp ro (nI j) hFb) gX10_ruleSymbol_X10_isRule ⟨rfl, hd_X10_isRule⟩ rfl ⟨rfl, rfl⟩ ⟨by decide, by decide⟩ rfl [0, 1, 2, 3, 4, 5, 6, 7, 8, 9, 10, 11, 12, 13] rfl [] [((h 0), .inr (6, [.ref ((h 1)), .ref ((h 2)), .ref ((h 3)), .int (nI km), .ref ((h 4)), .int (nI le), .int (nI sp), .ref ((h 5)), .ref ((h 6)), .int (nI ro), .ref ((h 7)), .ref ((h 8)), .ref ((h 9)), .ref ((h 10)), .ref ((h 11)), .ref ((h 12)), .ref ((h 13))])), ((h 1), .inl (cI, 99, .inl (sA F))), ((h 2), .inl (cI, 99, .inl fr)), ((h 3), .inl (cI, 594, .inl (kA Q))), ((h 4), .inl (cI, 200, .inl (fun zz => nI (ft zz)))), ((h 5), .inl (cI, 12, .inl (fun zz => nI (B zz)))), ((h 6), .inl (cI, 12, .inl (fun zz => nI (Bt zz)))), ((h 7), .inl (cJ, 16, .inr (.inl W))), ((h 8), .inl (cJ, 16, .inr (.inl M))), ((h 9), .inl (cI, 9, .inl (fun zz => nI (a1 zz)))), ((h 10), .inl (cI, 9, .inl (fun zz => nI (a2 zz)))), ((h 11), .inl (cI, 198, .inl (fun zz => nI (a3 zz)))), ((h 12), .inl (cI, 9, .inl (fun zz => nI (a4 zz)))), ((h 13), .inl (cI, 9, .inl (fA a5)))] (fun _ => rfl) [] [(h 0), (h 1), (h 2), (h 3), (h 4), (h 5), (h 6), (h 7), (h 8), (h 9), (h 10), (h 11), (h 12), (h 13)] rfl rfl rfl rfl rfl (by decide) (by decide) 0 rfl rfl rfl (Nat.le_of_ble_eq_true rfl) dX10_ruleSymbol_2 (fun u_2 h_2 => ?_) rfl
  show J l _ D ε _ _ _ (.int (nI (b2n (inR (nI j) (F 4)))) :: _)
  refine j_if_eq EE 18 dX10_ruleSymbol_5 (by decide) (fun c5 => absurd c5 (by rw [inR_nI hj (by omega)]; decide)) (fun c5 => ?_)
  have n5 : (b2n (inR (nI j) (F 4))) ≠ 0 := fun hq => c5 ((nI_eq (a := (b2n (inR (nI j) (F 4)))) (b := 0) (by have := b2n_lt (inR (nI j) (F 4)); omega) (by have := b2n_lt (inR (nI j) (F 4)); omega)).mpr hq)
  refine j_iload_n EE 2 dX10_ruleSymbol_8 rfl rfl ?_
  refine j_i2l EE dX10_ruleSymbol_9 ?_
  refine j_lconst (v := lN 0) EE dX10_ruleSymbol_10 (by decide) ?_
  refine j_lconst (v := lN 1) EE dX10_ruleSymbol_11 (by decide) ?_
  refine j_S2 (n9 := 14) EE (c_X10_in ((nI 1).toInt64) (lN 0) (lN 1)) gX10_ruleSymbol_X10_in hd_X10_in rfl ⟨rfl, rfl⟩ ⟨by decide, by decide⟩ rfl [] rfl [0, 1, 2, 3, 4, 5, 6, 7, 8, 9, 10, 11, 12, 13] [((h 0), .inr (6, [.ref ((h 1)), .ref ((h 2)), .ref ((h 3)), .int (nI km), .ref ((h 4)), .int (nI le), .int (nI sp), .ref ((h 5)), .ref ((h 6)), .int (nI ro), .ref ((h 7)), .ref ((h 8)), .ref ((h 9)), .ref ((h 10)), .ref ((h 11)), .ref ((h 12)), .ref ((h 13))])), ((h 1), .inl (cI, 99, .inl (sA F))), ((h 2), .inl (cI, 99, .inl fr)), ((h 3), .inl (cI, 594, .inl (kA Q))), ((h 4), .inl (cI, 200, .inl (fun zz => nI (ft zz)))), ((h 5), .inl (cI, 12, .inl (fun zz => nI (B zz)))), ((h 6), .inl (cI, 12, .inl (fun zz => nI (Bt zz)))), ((h 7), .inl (cJ, 16, .inr (.inl W))), ((h 8), .inl (cJ, 16, .inr (.inl M))), ((h 9), .inl (cI, 9, .inl (fun zz => nI (a1 zz)))), ((h 10), .inl (cI, 9, .inl (fun zz => nI (a2 zz)))), ((h 11), .inl (cI, 198, .inl (fun zz => nI (a3 zz)))), ((h 12), .inl (cI, 9, .inl (fun zz => nI (a4 zz)))), ((h 13), .inl (cI, 9, .inl (fA a5)))] (fun _ => rfl) [((h 0), .inr (6, [.ref ((h 1)), .ref ((h 2)), .ref ((h 3)), .int (nI km), .ref ((h 4)), .int (nI le), .int (nI sp), .ref ((h 5)), .ref ((h 6)), .int (nI ro), .ref ((h 7)), .ref ((h 8)), .ref ((h 9)), .ref ((h 10)), .ref ((h 11)), .ref ((h 12)), .ref ((h 13))])), ((h 1), .inl (cI, 99, .inl (sA F))), ((h 2), .inl (cI, 99, .inl fr)), ((h 3), .inl (cI, 594, .inl (kA Q))), ((h 4), .inl (cI, 200, .inl (fun zz => nI (ft zz)))), ((h 5), .inl (cI, 12, .inl (fun zz => nI (B zz)))), ((h 6), .inl (cI, 12, .inl (fun zz => nI (Bt zz)))), ((h 7), .inl (cJ, 16, .inr (.inl W))), ((h 8), .inl (cJ, 16, .inr (.inl M))), ((h 9), .inl (cI, 9, .inl (fun zz => nI (a1 zz)))), ((h 10), .inl (cI, 9, .inl (fun zz => nI (a2 zz)))), ((h 11), .inl (cI, 198, .inl (fun zz => nI (a3 zz)))), ((h 12), .inl (cI, 9, .inl (fun zz => nI (a4 zz)))), ((h 13), .inl (cI, 9, .inl (fA a5)))] [(h 0), (h 1), (h 2), (h 3), (h 4), (h 5), (h 6), (h 7), (h 8), (h 9), (h 10), (h 11), (h 12), (h 13)] rfl rfl rfl rfl rfl (by decide) (by decide) rfl (Nat.le_of_ble_eq_true rfl) dX10_ruleSymbol_12 (fun u_12 h_12 => ?_) rfl
  show J l _ D ε _ _ _ (.int (if lN 0 ≤ (nI 1).toInt64 ∧ (nI 1).toInt64 ≤ lN 1 then nI 1 else nI 0) :: _)
  refine j_topE (y := nI 1) (by decide) ?_
  show J l _ D ε _ _ _ (.int (nI 1) :: _)
  refine j_if_ne EE 20 dX10_ruleSymbol_15 (by decide) (fun c15 => ?_) (fun c15 => absurd c15 (by decide))
  have n15 : 1 ≠ 0 := fun hq => c15 ((nI_eq (a := 1) (b := 0) (by omega) (by omega)).mpr hq)
  refine j_aload_n EE 0 dX10_ruleSymbol_20 rfl rfl ?_
  refine j_iload_n EE 1 dX10_ruleSymbol_21 rfl rfl ?_
  refine j_iconst (v := nI 3) EE dX10_ruleSymbol_22 (by decide) ?_
  refine j_iload_n EE 2 dX10_ruleSymbol_23 rfl rfl ?_
  refine j_iadd EE dX10_ruleSymbol_24 ?_
  refine j_topE (y := nI 4) (by decide) ?_
  refine j_V2 (n9 := 14) EE (c_X10_ofRuleW h F Q ft B Bt a1 a2 a3 a4 a5 fr W M km le sp ro j 4 (by omega) (by omega) (by omega)) gX10_ruleSymbol_X10_ofRule ⟨rfl, hd_X10_ofRule⟩ rfl ⟨rfl, rfl⟩ ⟨by decide, by decide⟩ rfl [0, 1, 2, 3, 4, 5, 6, 7, 8, 9, 10, 11, 12, 13] rfl [] [((h 0), .inr (6, [.ref ((h 1)), .ref ((h 2)), .ref ((h 3)), .int (nI km), .ref ((h 4)), .int (nI le), .int (nI sp), .ref ((h 5)), .ref ((h 6)), .int (nI ro), .ref ((h 7)), .ref ((h 8)), .ref ((h 9)), .ref ((h 10)), .ref ((h 11)), .ref ((h 12)), .ref ((h 13))])), ((h 1), .inl (cI, 99, .inl (sA F))), ((h 2), .inl (cI, 99, .inl fr)), ((h 3), .inl (cI, 594, .inl (kA Q))), ((h 4), .inl (cI, 200, .inl (fun zz => nI (ft zz)))), ((h 5), .inl (cI, 12, .inl (fun zz => nI (B zz)))), ((h 6), .inl (cI, 12, .inl (fun zz => nI (Bt zz)))), ((h 7), .inl (cJ, 16, .inr (.inl W))), ((h 8), .inl (cJ, 16, .inr (.inl M))), ((h 9), .inl (cI, 9, .inl (fun zz => nI (a1 zz)))), ((h 10), .inl (cI, 9, .inl (fun zz => nI (a2 zz)))), ((h 11), .inl (cI, 198, .inl (fun zz => nI (a3 zz)))), ((h 12), .inl (cI, 9, .inl (fun zz => nI (a4 zz)))), ((h 13), .inl (cI, 9, .inl (fA a5)))] (fun _ => rfl) [] [(h 0), (h 1), (h 2), (h 3), (h 4), (h 5), (h 6), (h 7), (h 8), (h 9), (h 10), (h 11), (h 12), (h 13)] rfl rfl rfl rfl rfl (by decide) (by decide) 0 rfl rfl rfl (Nat.le_of_ble_eq_true rfl) dX10_ruleSymbol_25 (fun u_25 h_25 => ?_) rfl
  show J l _ D ε _ _ _ (.int (nI (F (5 + 5 * j + 4)) - nI 1) :: _)
  refine j_istore_n EE [(3, _), (0, _), (1, _), (2, _)] dX10_ruleSymbol_28 rfl (Nat.lt_of_lt_of_eq (by decide) hL.symm) rfl ?_
  refine j_iload_n EE 0 dX10_ruleSymbol_29 rfl rfl ?_
  refine j_iconst (v := (-1)) EE dX10_ruleSymbol_30 (by decide) ?_
  refine j_icmp_ne EE 39 dX10_ruleSymbol_31 (by decide) (fun c31 => ?_) (fun c31 => ?_)
  · skip
    have m31 := fun hq => c31 ((b_m1w (hFb (5 + 5 * j + 4))).mpr hq)
    refine j_iload_n EE 0 dX10_ruleSymbol_39 rfl rfl ?_
    exact j_iret EE FF dX10_ruleSymbol_40 () trivial (by first | rw [if_pos m31] | rw [if_neg m31]) rfl
  · skip
    have m31 := (b_m1w (hFb _)).mp c31
    refine j_bipush (v := (-4)) EE dX10_ruleSymbol_34 (by decide) ?_
    refine j_goto EE 40 dX10_ruleSymbol_36 (by decide) ?_
    exact j_iret EE FF dX10_ruleSymbol_40 () trivial (by first | rw [if_pos m31] | rw [if_neg m31]) rfl

theorem hd_X10_isState : yX10_isState.cls ≠ "java/lang/invoke/MethodHandle" ∧ yX10_isState.cls ≠ "java/lang/invoke/VarHandle" ∧ (parseMethodDescriptor yX10_isState.desc).map (fun d => d.parameters.length) = some 1 := by decide +kernel
set_option maxHeartbeats 4000000 in
set_option maxRecDepth 100000 in
theorem c_X10_ownerOfE (h F Q ft B Bt a1 a2 a3 a4 a5 : Nat → Nat) (fr : Nat → Int32) (W M : Nat → Int64) (km le sp ro : Nat) (x : Int32) (hFb : ∀ i, F i < 65536) (hi : inR x (F 0) = false) : Ct l yX10_ownerOf wsX10_ownerOf (rmD (3)) D [(cI, .int), (cC, .char), (cJ, .long), (cG, .object "PushdownGameSolver$Game")] [.ref ((h 0)), .int (x)] [((h 0), .inr (6, [.ref ((h 1)), .ref ((h 2)), .ref ((h 3)), .int (nI km), .ref ((h 4)), .int (nI le), .int (nI sp), .ref ((h 5)), .ref ((h 6)), .int (nI ro), .ref ((h 7)), .ref ((h 8)), .ref ((h 9)), .ref ((h 10)), .ref ((h 11)), .ref ((h 12)), .ref ((h 13))])), ((h 1), .inl (cI, 99, .inl (sA F))), ((h 2), .inl (cI, 99, .inl fr)), ((h 3), .inl (cI, 594, .inl (kA Q))), ((h 4), .inl (cI, 200, .inl (fun zz => nI (ft zz)))), ((h 5), .inl (cI, 12, .inl (fun zz => nI (B zz)))), ((h 6), .inl (cI, 12, .inl (fun zz => nI (Bt zz)))), ((h 7), .inl (cJ, 16, .inr (.inl W))), ((h 8), .inl (cJ, 16, .inr (.inl M))), ((h 9), .inl (cI, 9, .inl (fun zz => nI (a1 zz)))), ((h 10), .inl (cI, 9, .inl (fun zz => nI (a2 zz)))), ((h 11), .inl (cI, 198, .inl (fun zz => nI (a3 zz)))), ((h 12), .inl (cI, 9, .inl (fun zz => nI (a4 zz)))), ((h 13), .inl (cI, 9, .inl (fA a5)))] (S := Unit) (fun _ => True) (fun _ => some (.int ((-1)))) (fun _ => [((h 0), .inr (6, [.ref ((h 1)), .ref ((h 2)), .ref ((h 3)), .int (nI km), .ref ((h 4)), .int (nI le), .int (nI sp), .ref ((h 5)), .ref ((h 6)), .int (nI ro), .ref ((h 7)), .ref ((h 8)), .ref ((h 9)), .ref ((h 10)), .ref ((h 11)), .ref ((h 12)), .ref ((h 13))])), ((h 1), .inl (cI, 99, .inl (sA F))), ((h 2), .inl (cI, 99, .inl fr)), ((h 3), .inl (cI, 594, .inl (kA Q))), ((h 4), .inl (cI, 200, .inl (fun zz => nI (ft zz)))), ((h 5), .inl (cI, 12, .inl (fun zz => nI (B zz)))), ((h 6), .inl (cI, 12, .inl (fun zz => nI (Bt zz)))), ((h 7), .inl (cJ, 16, .inr (.inl W))), ((h 8), .inl (cJ, 16, .inr (.inl M))), ((h 9), .inl (cI, 9, .inl (fun zz => nI (a1 zz)))), ((h 10), .inl (cI, 9, .inl (fun zz => nI (a2 zz)))), ((h 11), .inl (cI, 198, .inl (fun zz => nI (a3 zz)))), ((h 12), .inl (cI, 9, .inl (fun zz => nI (a4 zz)))), ((h 13), .inl (cI, 9, .inl (fA a5)))]) := by
  refine Ct.of (lv := [(0, .ref ((h 0))), (1, .int (x))]) (by decide) rfl (Nat.le_of_ble_eq_true rfl) rfl ?_
  intro ε hL EE FF
  refine j_aload_n EE 0 dX10_ownerOf_0 rfl rfl ?_
  refine j_iload_n EE 1 dX10_ownerOf_1 rfl rfl ?_
  refine j_V2 (n9 := 14) EE (c_X10_isState h F Q ft B Bt a1 a2 a3 a4 a5 fr W M km le sp ro x hFb) gX10_ownerOf_X10_isState ⟨rfl, hd_X10_isState⟩ rfl ⟨rfl, rfl⟩ ⟨by decide, by decide⟩ rfl [0, 1, 2, 3, 4, 5, 6, 7, 8, 9, 10, 11, 12, 13] rfl [] [((h 0), .inr (6, [.ref ((h 1)), .ref ((h 2)), .ref ((h 3)), .int (nI km), .ref ((h 4)), .int (nI le), .int (nI sp), .ref ((h 5)), .ref ((h 6)), .int (nI ro), .ref ((h 7)), .ref ((h 8)), .ref ((h 9)), .ref ((h 10)), .ref ((h 11)), .ref ((h 12)), .ref ((h 13))])), ((h 1), .inl (cI, 99, .inl (sA F))), ((h 2), .inl (cI, 99, .inl fr)), ((h 3), .inl (cI, 594, .inl (kA Q))), ((h 4), .inl (cI, 200, .inl (fun zz => nI (ft zz)))), ((h 5), .inl (cI, 12, .inl (fun zz => nI (B zz)))), ((h 6), .inl (cI, 12, .inl (fun zz => nI (Bt zz)))), ((h 7), .inl (cJ, 16, .inr (.inl W))), ((h 8), .inl (cJ, 16, .inr (.inl M))), ((h 9), .inl (cI, 9, .inl (fun zz => nI (a1 zz)))), ((h 10), .inl (cI, 9, .inl (fun zz => nI (a2 zz)))), ((h 11), .inl (cI, 198, .inl (fun zz => nI (a3 zz)))), ((h 12), .inl (cI, 9, .inl (fun zz => nI (a4 zz)))), ((h 13), .inl (cI, 9, .inl (fA a5)))] (fun _ => rfl) [] [(h 0), (h 1), (h 2), (h 3), (h 4), (h 5), (h 6), (h 7), (h 8), (h 9), (h 10), (h 11), (h 12), (h 13)] rfl rfl rfl rfl rfl (by decide) (by decide) 0 rfl rfl rfl (Nat.le_of_ble_eq_true rfl) dX10_ownerOf_2 (fun u_2 h_2 => ?_) rfl
  show J l _ D ε _ _ _ (.int (nI (b2n (inR x (F 0)))) :: _)
  refine j_if_eq EE 21 dX10_ownerOf_5 (by decide) (fun c5 => ?_) (fun c5 => absurd (by rw [hi]; rfl) c5)
  have n5 : (b2n (inR x (F 0))) = 0 := (nI_eq (a := (b2n (inR x (F 0)))) (b := 0) (by have := b2n_lt (inR x (F 0)); omega) (by have := b2n_lt (inR x (F 0)); omega)).mp c5
  refine j_iconst (v := (-1)) EE dX10_ownerOf_21 (by decide) ?_
  exact j_iret EE FF dX10_ownerOf_22 () trivial (by first | rfl | simp_all) rfl

theorem iw_X10_ownerOf_X10 : ∀ w ∈ wsX100, w ∈ wsX10_ownerOf := fun _ h => List.mem_cons_of_mem _ (List.mem_append_right _ h)
theorem lk_X10_ownerOf_7 : Cond.fieldLink RX10 7 (TX10 0).1 (TX10 0).2.1 (TX10 0).2.2.1 ∈ wsX10_ownerOf := List.mem_of_getElem? (i := 1) rfl
set_option maxHeartbeats 4000000 in
set_option maxRecDepth 100000 in
theorem c_X10_ownerOf (h F Q ft B Bt a1 a2 a3 a4 a5 : Nat → Nat) (fr : Nat → Int32) (W M : Nat → Int64) (km le sp ro : Nat) (j : Nat) (hFb : ∀ i, F i < 65536) (hj : j < F 0) (h4 : F 0 ≤ 4) : Ct l yX10_ownerOf wsX10_ownerOf (rmD (3)) D [(cI, .int), (cC, .char), (cJ, .long), (cG, .object "PushdownGameSolver$Game")] [.ref ((h 0)), .int (nI j)] [((h 0), .inr (6, [.ref ((h 1)), .ref ((h 2)), .ref ((h 3)), .int (nI km), .ref ((h 4)), .int (nI le), .int (nI sp), .ref ((h 5)), .ref ((h 6)), .int (nI ro), .ref ((h 7)), .ref ((h 8)), .ref ((h 9)), .ref ((h 10)), .ref ((h 11)), .ref ((h 12)), .ref ((h 13))])), ((h 1), .inl (cI, 99, .inl (sA F))), ((h 2), .inl (cI, 99, .inl fr)), ((h 3), .inl (cI, 594, .inl (kA Q))), ((h 4), .inl (cI, 200, .inl (fun zz => nI (ft zz)))), ((h 5), .inl (cI, 12, .inl (fun zz => nI (B zz)))), ((h 6), .inl (cI, 12, .inl (fun zz => nI (Bt zz)))), ((h 7), .inl (cJ, 16, .inr (.inl W))), ((h 8), .inl (cJ, 16, .inr (.inl M))), ((h 9), .inl (cI, 9, .inl (fun zz => nI (a1 zz)))), ((h 10), .inl (cI, 9, .inl (fun zz => nI (a2 zz)))), ((h 11), .inl (cI, 198, .inl (fun zz => nI (a3 zz)))), ((h 12), .inl (cI, 9, .inl (fun zz => nI (a4 zz)))), ((h 13), .inl (cI, 9, .inl (fA a5)))] (S := Unit) (fun _ => True) (fun _ => some (.int (nI (bt (F 2) j)))) (fun _ => [((h 0), .inr (6, [.ref ((h 1)), .ref ((h 2)), .ref ((h 3)), .int (nI km), .ref ((h 4)), .int (nI le), .int (nI sp), .ref ((h 5)), .ref ((h 6)), .int (nI ro), .ref ((h 7)), .ref ((h 8)), .ref ((h 9)), .ref ((h 10)), .ref ((h 11)), .ref ((h 12)), .ref ((h 13))])), ((h 1), .inl (cI, 99, .inl (sA F))), ((h 2), .inl (cI, 99, .inl fr)), ((h 3), .inl (cI, 594, .inl (kA Q))), ((h 4), .inl (cI, 200, .inl (fun zz => nI (ft zz)))), ((h 5), .inl (cI, 12, .inl (fun zz => nI (B zz)))), ((h 6), .inl (cI, 12, .inl (fun zz => nI (Bt zz)))), ((h 7), .inl (cJ, 16, .inr (.inl W))), ((h 8), .inl (cJ, 16, .inr (.inl M))), ((h 9), .inl (cI, 9, .inl (fun zz => nI (a1 zz)))), ((h 10), .inl (cI, 9, .inl (fun zz => nI (a2 zz)))), ((h 11), .inl (cI, 198, .inl (fun zz => nI (a3 zz)))), ((h 12), .inl (cI, 9, .inl (fun zz => nI (a4 zz)))), ((h 13), .inl (cI, 9, .inl (fA a5)))]) := by
  refine Ct.of (lv := [(0, .ref ((h 0))), (1, .int (nI j))]) (by decide) rfl (Nat.le_of_ble_eq_true rfl) rfl ?_
  intro ε hL EE FF
  have hb9 := hFb 2
  refine j_aload_n EE 0 dX10_ownerOf_0 rfl rfl ?_
  refine j_iload_n EE 1 dX10_ownerOf_1 rfl rfl ?_
  refine j_V2 (n9 := 14) EE (c_X10_isState h F Q ft B Bt a1 a2 a3 a4 a5 fr W M km le sp ro (nI j) hFb) gX10_ownerOf_X10_isState ⟨rfl, hd_X10_isState⟩ rfl ⟨rfl, rfl⟩ ⟨by decide, by decide⟩ rfl [0, 1, 2, 3, 4, 5, 6, 7, 8, 9, 10, 11, 12, 13] rfl [] [((h 0), .inr (6, [.ref ((h 1)), .ref ((h 2)), .ref ((h 3)), .int (nI km), .ref ((h 4)), .int (nI le), .int (nI sp), .ref ((h 5)), .ref ((h 6)), .int (nI ro), .ref ((h 7)), .ref ((h 8)), .ref ((h 9)), .ref ((h 10)), .ref ((h 11)), .ref ((h 12)), .ref ((h 13))])), ((h 1), .inl (cI, 99, .inl (sA F))), ((h 2), .inl (cI, 99, .inl fr)), ((h 3), .inl (cI, 594, .inl (kA Q))), ((h 4), .inl (cI, 200, .inl (fun zz => nI (ft zz)))), ((h 5), .inl (cI, 12, .inl (fun zz => nI (B zz)))), ((h 6), .inl (cI, 12, .inl (fun zz => nI (Bt zz)))), ((h 7), .inl (cJ, 16, .inr (.inl W))), ((h 8), .inl (cJ, 16, .inr (.inl M))), ((h 9), .inl (cI, 9, .inl (fun zz => nI (a1 zz)))), ((h 10), .inl (cI, 9, .inl (fun zz => nI (a2 zz)))), ((h 11), .inl (cI, 198, .inl (fun zz => nI (a3 zz)))), ((h 12), .inl (cI, 9, .inl (fun zz => nI (a4 zz)))), ((h 13), .inl (cI, 9, .inl (fA a5)))] (fun _ => rfl) [] [(h 0), (h 1), (h 2), (h 3), (h 4), (h 5), (h 6), (h 7), (h 8), (h 9), (h 10), (h 11), (h 12), (h 13)] rfl rfl rfl rfl rfl (by decide) (by decide) 0 rfl rfl rfl (Nat.le_of_ble_eq_true rfl) dX10_ownerOf_2 (fun u_2 h_2 => ?_) rfl
  show J l _ D ε _ _ _ (.int (nI (b2n (inR (nI j) (F 0)))) :: _)
  refine j_if_eq EE 21 dX10_ownerOf_5 (by decide) (fun c5 => absurd c5 (by rw [inR_nI hj (by omega)]; decide)) (fun c5 => ?_)
  have n5 : (b2n (inR (nI j) (F 0))) ≠ 0 := fun hq => c5 ((nI_eq (a := (b2n (inR (nI j) (F 0)))) (b := 0) (by have := b2n_lt (inR (nI j) (F 0)); omega) (by have := b2n_lt (inR (nI j) (F 0)); omega)).mpr hq)
  refine j_aload_n EE 0 dX10_ownerOf_8 rfl rfl ?_
  refine j_get (T := TX10) EE iw_X10_ownerOf_X10 0 rfl rfl 0 (by decide) lk_X10_ownerOf_7 rfl dX10_ownerOf_9 ?_
  refine j_iconst (v := nI 2) EE dX10_ownerOf_12 (by decide) ?_
  refine j_iald EE 1 0 rfl rfl (vp_in_nI (n := 2) (by omega) (by decide)) dX10_ownerOf_13 ?_
  refine j_topE (congrArg (sA F) (nI_clamp (n := 2) (by omega))) ?_
  refine j_topE (y := nI (F 2)) (sA_n (by omega)) ?_
  refine j_iload_n EE 1 dX10_ownerOf_14 rfl rfl ?_
  refine j_ishr EE dX10_ownerOf_15 ?_
  refine j_iconst (v := nI 1) EE dX10_ownerOf_16 (by decide) ?_
  refine j_iand EE dX10_ownerOf_17 ?_
  refine j_topE (y := nI (bt (F 2) j)) (b_bit (by omega) (by omega)) ?_
  refine j_goto EE 22 dX10_ownerOf_18 (by decide) ?_
  exact j_iret EE FF dX10_ownerOf_22 () trivial (by first | rfl | simp_all) rfl

set_option maxHeartbeats 4000000 in
set_option maxRecDepth 100000 in
theorem c_X10_isTargetE (h F Q ft B Bt a1 a2 a3 a4 a5 : Nat → Nat) (fr : Nat → Int32) (W M : Nat → Int64) (km le sp ro : Nat) (x : Int32) (hFb : ∀ i, F i < 65536) (hi : inR x (F 0) = false) : Ct l yX10_isTarget wsX10_isTarget (rmD (3)) D [(cI, .int), (cC, .char), (cJ, .long), (cG, .object "PushdownGameSolver$Game")] [.ref ((h 0)), .int (x)] [((h 0), .inr (6, [.ref ((h 1)), .ref ((h 2)), .ref ((h 3)), .int (nI km), .ref ((h 4)), .int (nI le), .int (nI sp), .ref ((h 5)), .ref ((h 6)), .int (nI ro), .ref ((h 7)), .ref ((h 8)), .ref ((h 9)), .ref ((h 10)), .ref ((h 11)), .ref ((h 12)), .ref ((h 13))])), ((h 1), .inl (cI, 99, .inl (sA F))), ((h 2), .inl (cI, 99, .inl fr)), ((h 3), .inl (cI, 594, .inl (kA Q))), ((h 4), .inl (cI, 200, .inl (fun zz => nI (ft zz)))), ((h 5), .inl (cI, 12, .inl (fun zz => nI (B zz)))), ((h 6), .inl (cI, 12, .inl (fun zz => nI (Bt zz)))), ((h 7), .inl (cJ, 16, .inr (.inl W))), ((h 8), .inl (cJ, 16, .inr (.inl M))), ((h 9), .inl (cI, 9, .inl (fun zz => nI (a1 zz)))), ((h 10), .inl (cI, 9, .inl (fun zz => nI (a2 zz)))), ((h 11), .inl (cI, 198, .inl (fun zz => nI (a3 zz)))), ((h 12), .inl (cI, 9, .inl (fun zz => nI (a4 zz)))), ((h 13), .inl (cI, 9, .inl (fA a5)))] (S := Unit) (fun _ => True) (fun _ => some (.int ((-1)))) (fun _ => [((h 0), .inr (6, [.ref ((h 1)), .ref ((h 2)), .ref ((h 3)), .int (nI km), .ref ((h 4)), .int (nI le), .int (nI sp), .ref ((h 5)), .ref ((h 6)), .int (nI ro), .ref ((h 7)), .ref ((h 8)), .ref ((h 9)), .ref ((h 10)), .ref ((h 11)), .ref ((h 12)), .ref ((h 13))])), ((h 1), .inl (cI, 99, .inl (sA F))), ((h 2), .inl (cI, 99, .inl fr)), ((h 3), .inl (cI, 594, .inl (kA Q))), ((h 4), .inl (cI, 200, .inl (fun zz => nI (ft zz)))), ((h 5), .inl (cI, 12, .inl (fun zz => nI (B zz)))), ((h 6), .inl (cI, 12, .inl (fun zz => nI (Bt zz)))), ((h 7), .inl (cJ, 16, .inr (.inl W))), ((h 8), .inl (cJ, 16, .inr (.inl M))), ((h 9), .inl (cI, 9, .inl (fun zz => nI (a1 zz)))), ((h 10), .inl (cI, 9, .inl (fun zz => nI (a2 zz)))), ((h 11), .inl (cI, 198, .inl (fun zz => nI (a3 zz)))), ((h 12), .inl (cI, 9, .inl (fun zz => nI (a4 zz)))), ((h 13), .inl (cI, 9, .inl (fA a5)))]) := by
  refine Ct.of (lv := [(0, .ref ((h 0))), (1, .int (x))]) (by decide) rfl (Nat.le_of_ble_eq_true rfl) rfl ?_
  intro ε hL EE FF
  refine j_aload_n EE 0 dX10_isTarget_0 rfl rfl ?_
  refine j_iload_n EE 1 dX10_isTarget_1 rfl rfl ?_
  refine j_V2 (n9 := 14) EE (c_X10_isState h F Q ft B Bt a1 a2 a3 a4 a5 fr W M km le sp ro x hFb) gX10_isTarget_X10_isState ⟨rfl, hd_X10_isState⟩ rfl ⟨rfl, rfl⟩ ⟨by decide, by decide⟩ rfl [0, 1, 2, 3, 4, 5, 6, 7, 8, 9, 10, 11, 12, 13] rfl [] [((h 0), .inr (6, [.ref ((h 1)), .ref ((h 2)), .ref ((h 3)), .int (nI km), .ref ((h 4)), .int (nI le), .int (nI sp), .ref ((h 5)), .ref ((h 6)), .int (nI ro), .ref ((h 7)), .ref ((h 8)), .ref ((h 9)), .ref ((h 10)), .ref ((h 11)), .ref ((h 12)), .ref ((h 13))])), ((h 1), .inl (cI, 99, .inl (sA F))), ((h 2), .inl (cI, 99, .inl fr)), ((h 3), .inl (cI, 594, .inl (kA Q))), ((h 4), .inl (cI, 200, .inl (fun zz => nI (ft zz)))), ((h 5), .inl (cI, 12, .inl (fun zz => nI (B zz)))), ((h 6), .inl (cI, 12, .inl (fun zz => nI (Bt zz)))), ((h 7), .inl (cJ, 16, .inr (.inl W))), ((h 8), .inl (cJ, 16, .inr (.inl M))), ((h 9), .inl (cI, 9, .inl (fun zz => nI (a1 zz)))), ((h 10), .inl (cI, 9, .inl (fun zz => nI (a2 zz)))), ((h 11), .inl (cI, 198, .inl (fun zz => nI (a3 zz)))), ((h 12), .inl (cI, 9, .inl (fun zz => nI (a4 zz)))), ((h 13), .inl (cI, 9, .inl (fA a5)))] (fun _ => rfl) [] [(h 0), (h 1), (h 2), (h 3), (h 4), (h 5), (h 6), (h 7), (h 8), (h 9), (h 10), (h 11), (h 12), (h 13)] rfl rfl rfl rfl rfl (by decide) (by decide) 0 rfl rfl rfl (Nat.le_of_ble_eq_true rfl) dX10_isTarget_2 (fun u_2 h_2 => ?_) rfl
  show J l _ D ε _ _ _ (.int (nI (b2n (inR x (F 0)))) :: _)
  refine j_if_eq EE 21 dX10_isTarget_5 (by decide) (fun c5 => ?_) (fun c5 => absurd (by rw [hi]; rfl) c5)
  have n5 : (b2n (inR x (F 0))) = 0 := (nI_eq (a := (b2n (inR x (F 0)))) (b := 0) (by have := b2n_lt (inR x (F 0)); omega) (by have := b2n_lt (inR x (F 0)); omega)).mp c5
  refine j_iconst (v := (-1)) EE dX10_isTarget_21 (by decide) ?_
  exact j_iret EE FF dX10_isTarget_22 () trivial (by first | rfl | simp_all) rfl

theorem iw_X10_isTarget_X10 : ∀ w ∈ wsX100, w ∈ wsX10_isTarget := fun _ h => List.mem_cons_of_mem _ (List.mem_append_right _ h)
theorem lk_X10_isTarget_7 : Cond.fieldLink RX10 7 (TX10 0).1 (TX10 0).2.1 (TX10 0).2.2.1 ∈ wsX10_isTarget := List.mem_of_getElem? (i := 1) rfl
set_option maxHeartbeats 4000000 in
set_option maxRecDepth 100000 in
theorem c_X10_isTarget (h F Q ft B Bt a1 a2 a3 a4 a5 : Nat → Nat) (fr : Nat → Int32) (W M : Nat → Int64) (km le sp ro : Nat) (j : Nat) (hFb : ∀ i, F i < 65536) (hj : j < F 0) (h4 : F 0 ≤ 4) : Ct l yX10_isTarget wsX10_isTarget (rmD (3)) D [(cI, .int), (cC, .char), (cJ, .long), (cG, .object "PushdownGameSolver$Game")] [.ref ((h 0)), .int (nI j)] [((h 0), .inr (6, [.ref ((h 1)), .ref ((h 2)), .ref ((h 3)), .int (nI km), .ref ((h 4)), .int (nI le), .int (nI sp), .ref ((h 5)), .ref ((h 6)), .int (nI ro), .ref ((h 7)), .ref ((h 8)), .ref ((h 9)), .ref ((h 10)), .ref ((h 11)), .ref ((h 12)), .ref ((h 13))])), ((h 1), .inl (cI, 99, .inl (sA F))), ((h 2), .inl (cI, 99, .inl fr)), ((h 3), .inl (cI, 594, .inl (kA Q))), ((h 4), .inl (cI, 200, .inl (fun zz => nI (ft zz)))), ((h 5), .inl (cI, 12, .inl (fun zz => nI (B zz)))), ((h 6), .inl (cI, 12, .inl (fun zz => nI (Bt zz)))), ((h 7), .inl (cJ, 16, .inr (.inl W))), ((h 8), .inl (cJ, 16, .inr (.inl M))), ((h 9), .inl (cI, 9, .inl (fun zz => nI (a1 zz)))), ((h 10), .inl (cI, 9, .inl (fun zz => nI (a2 zz)))), ((h 11), .inl (cI, 198, .inl (fun zz => nI (a3 zz)))), ((h 12), .inl (cI, 9, .inl (fun zz => nI (a4 zz)))), ((h 13), .inl (cI, 9, .inl (fA a5)))] (S := Unit) (fun _ => True) (fun _ => some (.int (nI (bt (F 3) j)))) (fun _ => [((h 0), .inr (6, [.ref ((h 1)), .ref ((h 2)), .ref ((h 3)), .int (nI km), .ref ((h 4)), .int (nI le), .int (nI sp), .ref ((h 5)), .ref ((h 6)), .int (nI ro), .ref ((h 7)), .ref ((h 8)), .ref ((h 9)), .ref ((h 10)), .ref ((h 11)), .ref ((h 12)), .ref ((h 13))])), ((h 1), .inl (cI, 99, .inl (sA F))), ((h 2), .inl (cI, 99, .inl fr)), ((h 3), .inl (cI, 594, .inl (kA Q))), ((h 4), .inl (cI, 200, .inl (fun zz => nI (ft zz)))), ((h 5), .inl (cI, 12, .inl (fun zz => nI (B zz)))), ((h 6), .inl (cI, 12, .inl (fun zz => nI (Bt zz)))), ((h 7), .inl (cJ, 16, .inr (.inl W))), ((h 8), .inl (cJ, 16, .inr (.inl M))), ((h 9), .inl (cI, 9, .inl (fun zz => nI (a1 zz)))), ((h 10), .inl (cI, 9, .inl (fun zz => nI (a2 zz)))), ((h 11), .inl (cI, 198, .inl (fun zz => nI (a3 zz)))), ((h 12), .inl (cI, 9, .inl (fun zz => nI (a4 zz)))), ((h 13), .inl (cI, 9, .inl (fA a5)))]) := by
  refine Ct.of (lv := [(0, .ref ((h 0))), (1, .int (nI j))]) (by decide) rfl (Nat.le_of_ble_eq_true rfl) rfl ?_
  intro ε hL EE FF
  have hb9 := hFb 3
  refine j_aload_n EE 0 dX10_isTarget_0 rfl rfl ?_
  refine j_iload_n EE 1 dX10_isTarget_1 rfl rfl ?_
  refine j_V2 (n9 := 14) EE (c_X10_isState h F Q ft B Bt a1 a2 a3 a4 a5 fr W M km le sp ro (nI j) hFb) gX10_isTarget_X10_isState ⟨rfl, hd_X10_isState⟩ rfl ⟨rfl, rfl⟩ ⟨by decide, by decide⟩ rfl [0, 1, 2, 3, 4, 5, 6, 7, 8, 9, 10, 11, 12, 13] rfl [] [((h 0), .inr (6, [.ref ((h 1)), .ref ((h 2)), .ref ((h 3)), .int (nI km), .ref ((h 4)), .int (nI le), .int (nI sp), .ref ((h 5)), .ref ((h 6)), .int (nI ro), .ref ((h 7)), .ref ((h 8)), .ref ((h 9)), .ref ((h 10)), .ref ((h 11)), .ref ((h 12)), .ref ((h 13))])), ((h 1), .inl (cI, 99, .inl (sA F))), ((h 2), .inl (cI, 99, .inl fr)), ((h 3), .inl (cI, 594, .inl (kA Q))), ((h 4), .inl (cI, 200, .inl (fun zz => nI (ft zz)))), ((h 5), .inl (cI, 12, .inl (fun zz => nI (B zz)))), ((h 6), .inl (cI, 12, .inl (fun zz => nI (Bt zz)))), ((h 7), .inl (cJ, 16, .inr (.inl W))), ((h 8), .inl (cJ, 16, .inr (.inl M))), ((h 9), .inl (cI, 9, .inl (fun zz => nI (a1 zz)))), ((h 10), .inl (cI, 9, .inl (fun zz => nI (a2 zz)))), ((h 11), .inl (cI, 198, .inl (fun zz => nI (a3 zz)))), ((h 12), .inl (cI, 9, .inl (fun zz => nI (a4 zz)))), ((h 13), .inl (cI, 9, .inl (fA a5)))] (fun _ => rfl) [] [(h 0), (h 1), (h 2), (h 3), (h 4), (h 5), (h 6), (h 7), (h 8), (h 9), (h 10), (h 11), (h 12), (h 13)] rfl rfl rfl rfl rfl (by decide) (by decide) 0 rfl rfl rfl (Nat.le_of_ble_eq_true rfl) dX10_isTarget_2 (fun u_2 h_2 => ?_) rfl
  show J l _ D ε _ _ _ (.int (nI (b2n (inR (nI j) (F 0)))) :: _)
  refine j_if_eq EE 21 dX10_isTarget_5 (by decide) (fun c5 => absurd c5 (by rw [inR_nI hj (by omega)]; decide)) (fun c5 => ?_)
  have n5 : (b2n (inR (nI j) (F 0))) ≠ 0 := fun hq => c5 ((nI_eq (a := (b2n (inR (nI j) (F 0)))) (b := 0) (by have := b2n_lt (inR (nI j) (F 0)); omega) (by have := b2n_lt (inR (nI j) (F 0)); omega)).mpr hq)
  refine j_aload_n EE 0 dX10_isTarget_8 rfl rfl ?_
  refine j_get (T := TX10) EE iw_X10_isTarget_X10 0 rfl rfl 0 (by decide) lk_X10_isTarget_7 rfl dX10_isTarget_9 ?_
  refine j_iconst (v := nI 3) EE dX10_isTarget_12 (by decide) ?_
  refine j_iald EE 1 0 rfl rfl (vp_in_nI (n := 3) (by omega) (by decide)) dX10_isTarget_13 ?_
  refine j_topE (congrArg (sA F) (nI_clamp (n := 3) (by omega))) ?_
  refine j_topE (y := nI (F 3)) (sA_n (by omega)) ?_
  refine j_iload_n EE 1 dX10_isTarget_14 rfl rfl ?_
  refine j_ishr EE dX10_isTarget_15 ?_
  refine j_iconst (v := nI 1) EE dX10_isTarget_16 (by decide) ?_
  refine j_iand EE dX10_isTarget_17 ?_
  refine j_topE (y := nI (bt (F 3) j)) (b_bit (by omega) (by omega)) ?_
  refine j_goto EE 22 dX10_isTarget_18 (by decide) ?_
  exact j_iret EE FF dX10_isTarget_22 () trivial (by first | rfl | simp_all) rfl

theorem iw_X10_stackSymbol_X10 : ∀ w ∈ wsX100, w ∈ wsX10_stackSymbol := fun _ h => List.mem_cons_of_mem _ (List.mem_append_right _ h)
theorem lk_X10_stackSymbol_7 : Cond.fieldLink RX10 7 (TX10 0).1 (TX10 0).2.1 (TX10 0).2.2.1 ∈ wsX10_stackSymbol := List.mem_of_getElem? (i := 1) rfl
set_option maxHeartbeats 4000000 in
set_option maxRecDepth 100000 in
theorem c_X10_stackSymbolE (h F Q ft B Bt a1 a2 a3 a4 a5 : Nat → Nat) (fr : Nat → Int32) (W M : Nat → Int64) (km le sp ro : Nat) (x : Int32) (hFb : ∀ i, F i < 65536) (hi : inR x (F 86) = false) : Ct l yX10_stackSymbol wsX10_stackSymbol (rmD (1)) D [(cI, .int), (cC, .char), (cJ, .long), (cG, .object "PushdownGameSolver$Game")] [.ref ((h 0)), .int (x)] [((h 0), .inr (6, [.ref ((h 1)), .ref ((h 2)), .ref ((h 3)), .int (nI km), .ref ((h 4)), .int (nI le), .int (nI sp), .ref ((h 5)), .ref ((h 6)), .int (nI ro), .ref ((h 7)), .ref ((h 8)), .ref ((h 9)), .ref ((h 10)), .ref ((h 11)), .ref ((h 12)), .ref ((h 13))])), ((h 1), .inl (cI, 99, .inl (sA F))), ((h 2), .inl (cI, 99, .inl fr)), ((h 3), .inl (cI, 594, .inl (kA Q))), ((h 4), .inl (cI, 200, .inl (fun zz => nI (ft zz)))), ((h 5), .inl (cI, 12, .inl (fun zz => nI (B zz)))), ((h 6), .inl (cI, 12, .inl (fun zz => nI (Bt zz)))), ((h 7), .inl (cJ, 16, .inr (.inl W))), ((h 8), .inl (cJ, 16, .inr (.inl M))), ((h 9), .inl (cI, 9, .inl (fun zz => nI (a1 zz)))), ((h 10), .inl (cI, 9, .inl (fun zz => nI (a2 zz)))), ((h 11), .inl (cI, 198, .inl (fun zz => nI (a3 zz)))), ((h 12), .inl (cI, 9, .inl (fun zz => nI (a4 zz)))), ((h 13), .inl (cI, 9, .inl (fA a5)))] (S := Unit) (fun _ => True) (fun _ => some (.int ((-1)))) (fun _ => [((h 0), .inr (6, [.ref ((h 1)), .ref ((h 2)), .ref ((h 3)), .int (nI km), .ref ((h 4)), .int (nI le), .int (nI sp), .ref ((h 5)), .ref ((h 6)), .int (nI ro), .ref ((h 7)), .ref ((h 8)), .ref ((h 9)), .ref ((h 10)), .ref ((h 11)), .ref ((h 12)), .ref ((h 13))])), ((h 1), .inl (cI, 99, .inl (sA F))), ((h 2), .inl (cI, 99, .inl fr)), ((h 3), .inl (cI, 594, .inl (kA Q))), ((h 4), .inl (cI, 200, .inl (fun zz => nI (ft zz)))), ((h 5), .inl (cI, 12, .inl (fun zz => nI (B zz)))), ((h 6), .inl (cI, 12, .inl (fun zz => nI (Bt zz)))), ((h 7), .inl (cJ, 16, .inr (.inl W))), ((h 8), .inl (cJ, 16, .inr (.inl M))), ((h 9), .inl (cI, 9, .inl (fun zz => nI (a1 zz)))), ((h 10), .inl (cI, 9, .inl (fun zz => nI (a2 zz)))), ((h 11), .inl (cI, 198, .inl (fun zz => nI (a3 zz)))), ((h 12), .inl (cI, 9, .inl (fun zz => nI (a4 zz)))), ((h 13), .inl (cI, 9, .inl (fA a5)))]) := by
  refine Ct.of (lv := [(0, .ref ((h 0))), (1, .int (x))]) (by decide) rfl (Nat.le_of_ble_eq_true rfl) rfl ?_
  intro ε hL EE FF
  have hb9 := hFb 86
  refine j_iload_n EE 1 dX10_stackSymbol_0 rfl rfl ?_
  refine j_i2l EE dX10_stackSymbol_1 ?_
  refine j_lconst (v := lN 0) EE dX10_stackSymbol_2 (by decide) ?_
  refine j_aload_n EE 0 dX10_stackSymbol_3 rfl rfl ?_
  refine j_get (T := TX10) EE iw_X10_stackSymbol_X10 0 rfl rfl 0 (by decide) lk_X10_stackSymbol_7 rfl dX10_stackSymbol_4 ?_
  refine j_bipush (v := nI 86) EE dX10_stackSymbol_7 (by decide) ?_
  refine j_iald EE 1 0 rfl rfl (vp_in_nI (n := 86) (by omega) (by decide)) dX10_stackSymbol_9 ?_
  refine j_topE (congrArg (sA F) (nI_clamp (n := 86) (by omega))) ?_
  refine j_topE (y := nI (F 86)) (sA_n (by omega)) ?_
  refine j_iconst (v := nI 1) EE dX10_stackSymbol_10 (by decide) ?_
  refine j_isub EE dX10_stackSymbol_11 ?_
  refine j_topE (y := nI (F 86) - nI 1) rfl ?_
  refine j_i2l EE dX10_stackSymbol_12 ?_
  refine j_S2 (n9 := 14) EE (c_X10_in ((x).toInt64) (lN 0) ((nI (F 86) - nI 1).toInt64)) gX10_stackSymbol_X10_in hd_X10_in rfl ⟨rfl, rfl⟩ ⟨by decide, by decide⟩ rfl [] rfl [0, 1, 2, 3, 4, 5, 6, 7, 8, 9, 10, 11, 12, 13] [((h 0), .inr (6, [.ref ((h 1)), .ref ((h 2)), .ref ((h 3)), .int (nI km), .ref ((h 4)), .int (nI le), .int (nI sp), .ref ((h 5)), .ref ((h 6)), .int (nI ro), .ref ((h 7)), .ref ((h 8)), .ref ((h 9)), .ref ((h 10)), .ref ((h 11)), .ref ((h 12)), .ref ((h 13))])), ((h 1), .inl (cI, 99, .inl (sA F))), ((h 2), .inl (cI, 99, .inl fr)), ((h 3), .inl (cI, 594, .inl (kA Q))), ((h 4), .inl (cI, 200, .inl (fun zz => nI (ft zz)))), ((h 5), .inl (cI, 12, .inl (fun zz => nI (B zz)))), ((h 6), .inl (cI, 12, .inl (fun zz => nI (Bt zz)))), ((h 7), .inl (cJ, 16, .inr (.inl W))), ((h 8), .inl (cJ, 16, .inr (.inl M))), ((h 9), .inl (cI, 9, .inl (fun zz => nI (a1 zz)))), ((h 10), .inl (cI, 9, .inl (fun zz => nI (a2 zz)))), ((h 11), .inl (cI, 198, .inl (fun zz => nI (a3 zz)))), ((h 12), .inl (cI, 9, .inl (fun zz => nI (a4 zz)))), ((h 13), .inl (cI, 9, .inl (fA a5)))] (fun _ => rfl) [((h 0), .inr (6, [.ref ((h 1)), .ref ((h 2)), .ref ((h 3)), .int (nI km), .ref ((h 4)), .int (nI le), .int (nI sp), .ref ((h 5)), .ref ((h 6)), .int (nI ro), .ref ((h 7)), .ref ((h 8)), .ref ((h 9)), .ref ((h 10)), .ref ((h 11)), .ref ((h 12)), .ref ((h 13))])), ((h 1), .inl (cI, 99, .inl (sA F))), ((h 2), .inl (cI, 99, .inl fr)), ((h 3), .inl (cI, 594, .inl (kA Q))), ((h 4), .inl (cI, 200, .inl (fun zz => nI (ft zz)))), ((h 5), .inl (cI, 12, .inl (fun zz => nI (B zz)))), ((h 6), .inl (cI, 12, .inl (fun zz => nI (Bt zz)))), ((h 7), .inl (cJ, 16, .inr (.inl W))), ((h 8), .inl (cJ, 16, .inr (.inl M))), ((h 9), .inl (cI, 9, .inl (fun zz => nI (a1 zz)))), ((h 10), .inl (cI, 9, .inl (fun zz => nI (a2 zz)))), ((h 11), .inl (cI, 198, .inl (fun zz => nI (a3 zz)))), ((h 12), .inl (cI, 9, .inl (fun zz => nI (a4 zz)))), ((h 13), .inl (cI, 9, .inl (fA a5)))] [(h 0), (h 1), (h 2), (h 3), (h 4), (h 5), (h 6), (h 7), (h 8), (h 9), (h 10), (h 11), (h 12), (h 13)] rfl rfl rfl rfl rfl (by decide) (by decide) rfl (Nat.le_of_ble_eq_true rfl) dX10_stackSymbol_13 (fun u_13 h_13 => ?_) rfl
  show J l _ D ε _ _ _ (.int (if lN 0 ≤ (x).toInt64 ∧ (x).toInt64 ≤ (nI (F 86) - nI 1).toInt64 then nI 1 else nI 0) :: _)
  refine j_topE (y := nI (b2n (inR x (F 86)))) (in_inR x (by omega)) ?_
  show J l _ D ε _ _ _ (.int (nI (b2n (inR x (F 86)))) :: _)
  refine j_if_eq EE 41 dX10_stackSymbol_16 (by decide) (fun c16 => ?_) (fun c16 => absurd (by rw [hi]; rfl) c16)
  have n16 : (b2n (inR x (F 86))) = 0 := (nI_eq (a := (b2n (inR x (F 86)))) (b := 0) (by have := b2n_lt (inR x (F 86)); omega) (by have := b2n_lt (inR x (F 86)); omega)).mp c16
  refine j_iconst (v := (-1)) EE dX10_stackSymbol_41 (by decide) ?_
  exact j_iret EE FF dX10_stackSymbol_42 () trivial (by first | rfl | simp_all) rfl

set_option maxHeartbeats 4000000 in
set_option maxRecDepth 100000 in
theorem c_X10_stackSymbol (h F Q ft B Bt a1 a2 a3 a4 a5 : Nat → Nat) (fr : Nat → Int32) (W M : Nat → Int64) (km le sp ro : Nat) (j : Nat) (hFb : ∀ i, F i < 65536) (hj : j < F 86) (h12 : F 86 ≤ 12) : Ct l yX10_stackSymbol wsX10_stackSymbol (rmD (1)) D [(cI, .int), (cC, .char), (cJ, .long), (cG, .object "PushdownGameSolver$Game")] [.ref ((h 0)), .int (nI j)] [((h 0), .inr (6, [.ref ((h 1)), .ref ((h 2)), .ref ((h 3)), .int (nI km), .ref ((h 4)), .int (nI le), .int (nI sp), .ref ((h 5)), .ref ((h 6)), .int (nI ro), .ref ((h 7)), .ref ((h 8)), .ref ((h 9)), .ref ((h 10)), .ref ((h 11)), .ref ((h 12)), .ref ((h 13))])), ((h 1), .inl (cI, 99, .inl (sA F))), ((h 2), .inl (cI, 99, .inl fr)), ((h 3), .inl (cI, 594, .inl (kA Q))), ((h 4), .inl (cI, 200, .inl (fun zz => nI (ft zz)))), ((h 5), .inl (cI, 12, .inl (fun zz => nI (B zz)))), ((h 6), .inl (cI, 12, .inl (fun zz => nI (Bt zz)))), ((h 7), .inl (cJ, 16, .inr (.inl W))), ((h 8), .inl (cJ, 16, .inr (.inl M))), ((h 9), .inl (cI, 9, .inl (fun zz => nI (a1 zz)))), ((h 10), .inl (cI, 9, .inl (fun zz => nI (a2 zz)))), ((h 11), .inl (cI, 198, .inl (fun zz => nI (a3 zz)))), ((h 12), .inl (cI, 9, .inl (fun zz => nI (a4 zz)))), ((h 13), .inl (cI, 9, .inl (fA a5)))] (S := Unit) (fun _ => True) (fun _ => some (.int (nI (F (87 + F 86 - 1 - j))))) (fun _ => [((h 0), .inr (6, [.ref ((h 1)), .ref ((h 2)), .ref ((h 3)), .int (nI km), .ref ((h 4)), .int (nI le), .int (nI sp), .ref ((h 5)), .ref ((h 6)), .int (nI ro), .ref ((h 7)), .ref ((h 8)), .ref ((h 9)), .ref ((h 10)), .ref ((h 11)), .ref ((h 12)), .ref ((h 13))])), ((h 1), .inl (cI, 99, .inl (sA F))), ((h 2), .inl (cI, 99, .inl fr)), ((h 3), .inl (cI, 594, .inl (kA Q))), ((h 4), .inl (cI, 200, .inl (fun zz => nI (ft zz)))), ((h 5), .inl (cI, 12, .inl (fun zz => nI (B zz)))), ((h 6), .inl (cI, 12, .inl (fun zz => nI (Bt zz)))), ((h 7), .inl (cJ, 16, .inr (.inl W))), ((h 8), .inl (cJ, 16, .inr (.inl M))), ((h 9), .inl (cI, 9, .inl (fun zz => nI (a1 zz)))), ((h 10), .inl (cI, 9, .inl (fun zz => nI (a2 zz)))), ((h 11), .inl (cI, 198, .inl (fun zz => nI (a3 zz)))), ((h 12), .inl (cI, 9, .inl (fun zz => nI (a4 zz)))), ((h 13), .inl (cI, 9, .inl (fA a5)))]) := by
  refine Ct.of (lv := [(0, .ref ((h 0))), (1, .int (nI j))]) (by decide) rfl (Nat.le_of_ble_eq_true rfl) rfl ?_
  intro ε hL EE FF
  refine j_iload_n EE 1 dX10_stackSymbol_0 rfl rfl ?_
  refine j_i2l EE dX10_stackSymbol_1 ?_
  refine j_lconst (v := lN 0) EE dX10_stackSymbol_2 (by decide) ?_
  refine j_aload_n EE 0 dX10_stackSymbol_3 rfl rfl ?_
  refine j_get (T := TX10) EE iw_X10_stackSymbol_X10 0 rfl rfl 0 (by decide) lk_X10_stackSymbol_7 rfl dX10_stackSymbol_4 ?_
  refine j_bipush (v := nI 86) EE dX10_stackSymbol_7 (by decide) ?_
  refine j_iald EE 1 0 rfl rfl (vp_in_nI (n := 86) (by omega) (by decide)) dX10_stackSymbol_9 ?_
  refine j_topE (congrArg (sA F) (nI_clamp (n := 86) (by omega))) ?_
  refine j_topE (y := nI (F 86)) (sA_n (by omega)) ?_
  refine j_iconst (v := nI 1) EE dX10_stackSymbol_10 (by decide) ?_
  refine j_isub EE dX10_stackSymbol_11 ?_
  refine j_topE (y := nI (F 86) - nI 1) rfl ?_
  refine j_i2l EE dX10_stackSymbol_12 ?_
  refine j_S2 (n9 := 14) EE (c_X10_in ((nI j).toInt64) (lN 0) ((nI (F 86) - nI 1).toInt64)) gX10_stackSymbol_X10_in hd_X10_in rfl ⟨rfl, rfl⟩ ⟨by decide, by decide⟩ rfl [] rfl [0, 1, 2, 3, 4, 5, 6, 7, 8, 9, 10, 11, 12, 13] [((h 0), .inr (6, [.ref ((h 1)), .ref ((h 2)), .ref ((h 3)), .int (nI km), .ref ((h 4)), .int (nI le), .int (nI sp), .ref ((h 5)), .ref ((h 6)), .int (nI ro), .ref ((h 7)), .ref ((h 8)), .ref ((h 9)), .ref ((h 10)), .ref ((h 11)), .ref ((h 12)), .ref ((h 13))])), ((h 1), .inl (cI, 99, .inl (sA F))), ((h 2), .inl (cI, 99, .inl fr)), ((h 3), .inl (cI, 594, .inl (kA Q))), ((h 4), .inl (cI, 200, .inl (fun zz => nI (ft zz)))), ((h 5), .inl (cI, 12, .inl (fun zz => nI (B zz)))), ((h 6), .inl (cI, 12, .inl (fun zz => nI (Bt zz)))), ((h 7), .inl (cJ, 16, .inr (.inl W))), ((h 8), .inl (cJ, 16, .inr (.inl M))), ((h 9), .inl (cI, 9, .inl (fun zz => nI (a1 zz)))), ((h 10), .inl (cI, 9, .inl (fun zz => nI (a2 zz)))), ((h 11), .inl (cI, 198, .inl (fun zz => nI (a3 zz)))), ((h 12), .inl (cI, 9, .inl (fun zz => nI (a4 zz)))), ((h 13), .inl (cI, 9, .inl (fA a5)))] (fun _ => rfl) [((h 0), .inr (6, [.ref ((h 1)), .ref ((h 2)), .ref ((h 3)), .int (nI km), .ref ((h 4)), .int (nI le), .int (nI sp), .ref ((h 5)), .ref ((h 6)), .int (nI ro), .ref ((h 7)), .ref ((h 8)), .ref ((h 9)), .ref ((h 10)), .ref ((h 11)), .ref ((h 12)), .ref ((h 13))])), ((h 1), .inl (cI, 99, .inl (sA F))), ((h 2), .inl (cI, 99, .inl fr)), ((h 3), .inl (cI, 594, .inl (kA Q))), ((h 4), .inl (cI, 200, .inl (fun zz => nI (ft zz)))), ((h 5), .inl (cI, 12, .inl (fun zz => nI (B zz)))), ((h 6), .inl (cI, 12, .inl (fun zz => nI (Bt zz)))), ((h 7), .inl (cJ, 16, .inr (.inl W))), ((h 8), .inl (cJ, 16, .inr (.inl M))), ((h 9), .inl (cI, 9, .inl (fun zz => nI (a1 zz)))), ((h 10), .inl (cI, 9, .inl (fun zz => nI (a2 zz)))), ((h 11), .inl (cI, 198, .inl (fun zz => nI (a3 zz)))), ((h 12), .inl (cI, 9, .inl (fun zz => nI (a4 zz)))), ((h 13), .inl (cI, 9, .inl (fA a5)))] [(h 0), (h 1), (h 2), (h 3), (h 4), (h 5), (h 6), (h 7), (h 8), (h 9), (h 10), (h 11), (h 12), (h 13)] rfl rfl rfl rfl rfl (by decide) (by decide) rfl (Nat.le_of_ble_eq_true rfl) dX10_stackSymbol_13 (fun u_13 h_13 => ?_) rfl
  show J l _ D ε _ _ _ (.int (if lN 0 ≤ (nI j).toInt64 ∧ (nI j).toInt64 ≤ (nI (F 86) - nI 1).toInt64 then nI 1 else nI 0) :: _)
  refine j_topE (y := nI (b2n (inR (nI j) (F 86)))) (in_inR (nI j) (by omega)) ?_
  show J l _ D ε _ _ _ (.int (nI (b2n (inR (nI j) (F 86)))) :: _)
  refine j_if_eq EE 41 dX10_stackSymbol_16 (by decide) (fun c16 => absurd c16 (by rw [inR_nI hj (by omega)]; decide)) (fun c16 => ?_)
  have n16 : (b2n (inR (nI j) (F 86))) ≠ 0 := fun hq => c16 ((nI_eq (a := (b2n (inR (nI j) (F 86)))) (b := 0) (by have := b2n_lt (inR (nI j) (F 86)); omega) (by have := b2n_lt (inR (nI j) (F 86)); omega)).mpr hq)
  refine j_aload_n EE 0 dX10_stackSymbol_19 rfl rfl ?_
  refine j_get (T := TX10) EE iw_X10_stackSymbol_X10 0 rfl rfl 0 (by decide) lk_X10_stackSymbol_7 rfl dX10_stackSymbol_20 ?_
  refine j_bipush (v := nI 87) EE dX10_stackSymbol_23 (by decide) ?_
  refine j_aload_n EE 0 dX10_stackSymbol_25 rfl rfl ?_
  refine j_get (T := TX10) EE iw_X10_stackSymbol_X10 0 rfl rfl 0 (by decide) lk_X10_stackSymbol_7 rfl dX10_stackSymbol_26 ?_
  refine j_bipush (v := nI 86) EE dX10_stackSymbol_29 (by decide) ?_
  refine j_iald EE 1 0 rfl rfl (vp_in_nI (n := 86) (by omega) (by decide)) dX10_stackSymbol_31 ?_
  refine j_topE (congrArg (sA F) (nI_clamp (n := 86) (by omega))) ?_
  refine j_topE (y := nI (F 86)) (sA_n (by omega)) ?_
  refine j_iadd EE dX10_stackSymbol_32 ?_
  refine j_topE (nI_add 87 (F 86)) ?_
  refine j_iconst (v := nI 1) EE dX10_stackSymbol_33 (by decide) ?_
  refine j_isub EE dX10_stackSymbol_34 ?_
  refine j_topE (pk_sub (a := 87 + (F 86)) (b := 1) (by have := hFb 86; omega)) ?_
  refine j_iload_n EE 1 dX10_stackSymbol_35 rfl rfl ?_
  refine j_isub EE dX10_stackSymbol_36 ?_
  refine j_topE (pk_sub (a := (87 + (F 86)) - 1) (b := j) (by have := hFb 86; omega)) ?_
  refine j_iald EE 1 0 rfl rfl (vp_in_nI (n := ((87 + (F 86)) - 1) - j) (by have := hFb 86; omega) (by decide)) dX10_stackSymbol_37 ?_
  refine j_topE (congrArg (sA F) (nI_clamp (n := ((87 + (F 86)) - 1) - j) (by have := hFb 86; omega))) ?_
  refine j_topE (y := nI (F (((87 + (F 86)) - 1) - j))) (sA_n (by have := hFb 86; omega)) ?_
  refine j_goto EE 42 dX10_stackSymbol_38 (by decide) ?_
  exact j_iret EE FF dX10_stackSymbol_42 () trivial (by first | rfl | simp_all) rfl

theorem iw_X10_isPlayable_X10 : ∀ w ∈ wsX100, w ∈ wsX10_isPlayable := fun _ h => List.mem_cons_of_mem _ (List.mem_append_right _ h)
theorem lk_X10_isPlayable_7 : Cond.fieldLink RX10 7 (TX10 0).1 (TX10 0).2.1 (TX10 0).2.2.1 ∈ wsX10_isPlayable := List.mem_of_getElem? (i := 1) rfl
set_option maxHeartbeats 4000000 in
set_option maxRecDepth 100000 in
theorem c_X10_isPlayable (h F Q ft B Bt a1 a2 a3 a4 a5 : Nat → Nat) (fr : Nat → Int32) (W M : Nat → Int64) (km le sp ro : Nat) (r : Nat) (hFb : ∀ i, F i < 65536) (hr : r < 16) (h12 : F 86 ≤ 12) : Ct l yX10_isPlayable wsX10_isPlayable (rmD (1)) D [(cI, .int), (cC, .char), (cJ, .long), (cG, .object "PushdownGameSolver$Game")] [.ref ((h 0)), .int (nI r)] [((h 0), .inr (6, [.ref ((h 1)), .ref ((h 2)), .ref ((h 3)), .int (nI km), .ref ((h 4)), .int (nI le), .int (nI sp), .ref ((h 5)), .ref ((h 6)), .int (nI ro), .ref ((h 7)), .ref ((h 8)), .ref ((h 9)), .ref ((h 10)), .ref ((h 11)), .ref ((h 12)), .ref ((h 13))])), ((h 1), .inl (cI, 99, .inl (sA F))), ((h 2), .inl (cI, 99, .inl fr)), ((h 3), .inl (cI, 594, .inl (kA Q))), ((h 4), .inl (cI, 200, .inl (fun zz => nI (ft zz)))), ((h 5), .inl (cI, 12, .inl (fun zz => nI (B zz)))), ((h 6), .inl (cI, 12, .inl (fun zz => nI (Bt zz)))), ((h 7), .inl (cJ, 16, .inr (.inl W))), ((h 8), .inl (cJ, 16, .inr (.inl M))), ((h 9), .inl (cI, 9, .inl (fun zz => nI (a1 zz)))), ((h 10), .inl (cI, 9, .inl (fun zz => nI (a2 zz)))), ((h 11), .inl (cI, 198, .inl (fun zz => nI (a3 zz)))), ((h 12), .inl (cI, 9, .inl (fun zz => nI (a4 zz)))), ((h 13), .inl (cI, 9, .inl (fA a5)))] (S := Unit) (fun _ => True) (fun _ => some (.int (nI (b2n (plB F r))))) (fun _ => [((h 0), .inr (6, [.ref ((h 1)), .ref ((h 2)), .ref ((h 3)), .int (nI km), .ref ((h 4)), .int (nI le), .int (nI sp), .ref ((h 5)), .ref ((h 6)), .int (nI ro), .ref ((h 7)), .ref ((h 8)), .ref ((h 9)), .ref ((h 10)), .ref ((h 11)), .ref ((h 12)), .ref ((h 13))])), ((h 1), .inl (cI, 99, .inl (sA F))), ((h 2), .inl (cI, 99, .inl fr)), ((h 3), .inl (cI, 594, .inl (kA Q))), ((h 4), .inl (cI, 200, .inl (fun zz => nI (ft zz)))), ((h 5), .inl (cI, 12, .inl (fun zz => nI (B zz)))), ((h 6), .inl (cI, 12, .inl (fun zz => nI (Bt zz)))), ((h 7), .inl (cJ, 16, .inr (.inl W))), ((h 8), .inl (cJ, 16, .inr (.inl M))), ((h 9), .inl (cI, 9, .inl (fun zz => nI (a1 zz)))), ((h 10), .inl (cI, 9, .inl (fun zz => nI (a2 zz)))), ((h 11), .inl (cI, 198, .inl (fun zz => nI (a3 zz)))), ((h 12), .inl (cI, 9, .inl (fun zz => nI (a4 zz)))), ((h 13), .inl (cI, 9, .inl (fA a5)))]) := by
  refine Ct.of (lv := [(0, .ref ((h 0))), (1, .int (nI r))]) (by decide) rfl (Nat.le_of_ble_eq_true rfl) rfl ?_
  intro ε hL EE FF
  refine j_aload_n EE 0 dX10_isPlayable_0 rfl rfl ?_
  refine j_iload_n EE 1 dX10_isPlayable_1 rfl rfl ?_
  refine j_iconst (v := nI 0) EE dX10_isPlayable_2 (by decide) ?_
  refine j_V2 (n9 := 14) EE (c_X10_ofRule h F Q ft B Bt a1 a2 a3 a4 a5 fr W M km le sp ro r 0 (by omega) (by omega)) gX10_isPlayable_X10_ofRule ⟨rfl, hd_X10_ofRule⟩ rfl ⟨rfl, rfl⟩ ⟨by decide, by decide⟩ rfl [0, 1, 2, 3, 4, 5, 6, 7, 8, 9, 10, 11, 12, 13] rfl [] [((h 0), .inr (6, [.ref ((h 1)), .ref ((h 2)), .ref ((h 3)), .int (nI km), .ref ((h 4)), .int (nI le), .int (nI sp), .ref ((h 5)), .ref ((h 6)), .int (nI ro), .ref ((h 7)), .ref ((h 8)), .ref ((h 9)), .ref ((h 10)), .ref ((h 11)), .ref ((h 12)), .ref ((h 13))])), ((h 1), .inl (cI, 99, .inl (sA F))), ((h 2), .inl (cI, 99, .inl fr)), ((h 3), .inl (cI, 594, .inl (kA Q))), ((h 4), .inl (cI, 200, .inl (fun zz => nI (ft zz)))), ((h 5), .inl (cI, 12, .inl (fun zz => nI (B zz)))), ((h 6), .inl (cI, 12, .inl (fun zz => nI (Bt zz)))), ((h 7), .inl (cJ, 16, .inr (.inl W))), ((h 8), .inl (cJ, 16, .inr (.inl M))), ((h 9), .inl (cI, 9, .inl (fun zz => nI (a1 zz)))), ((h 10), .inl (cI, 9, .inl (fun zz => nI (a2 zz)))), ((h 11), .inl (cI, 198, .inl (fun zz => nI (a3 zz)))), ((h 12), .inl (cI, 9, .inl (fun zz => nI (a4 zz)))), ((h 13), .inl (cI, 9, .inl (fA a5)))] (fun _ => rfl) [] [(h 0), (h 1), (h 2), (h 3), (h 4), (h 5), (h 6), (h 7), (h 8), (h 9), (h 10), (h 11), (h 12), (h 13)] rfl rfl rfl rfl rfl (by decide) (by decide) 0 rfl rfl rfl (Nat.le_of_ble_eq_true rfl) dX10_isPlayable_3 (fun u_3 h_3 => ?_) rfl
  show J l _ D ε _ _ _ (.int (nI (F (5 + 5 * r + 0))) :: _)
  refine j_aload_n EE 0 dX10_isPlayable_6 rfl rfl ?_
  refine j_get (T := TX10) EE iw_X10_isPlayable_X10 0 rfl rfl 0 (by decide) lk_X10_isPlayable_7 rfl dX10_isPlayable_7 ?_
  refine j_bipush (v := nI 85) EE dX10_isPlayable_10 (by decide) ?_
  refine j_iald EE 1 0 rfl rfl (vp_in_nI (n := 85) (by omega) (by decide)) dX10_isPlayable_12 ?_
  refine j_topE (congrArg (sA F) (nI_clamp (n := 85) (by omega))) ?_
  refine j_topE (y := nI (F 85)) (sA_n (by omega)) ?_
  refine j_icmp_ne EE 56 dX10_isPlayable_13 (by decide) (fun c13 => ?_) (fun c13 => ?_)
  · skip
    have n13 : (F (5 + 5 * r + 0)) ≠ (F 85) := fun hq => c13 ((nI_eq (a := (F (5 + 5 * r + 0))) (b := (F 85)) (by have := hFb (5 + 5 * r + 0); have := hFb 85; omega) (by have := hFb (5 + 5 * r + 0); have := hFb 85; omega)).mpr hq)
    refine j_iconst (v := nI 0) EE dX10_isPlayable_56 (by decide) ?_
    exact j_zret EE FF (by decide) dX10_isPlayable_57 () trivial (by unfold plB; first | (rw [decide_eq_true ⟨n13, by omega, n49⟩]; rfl) | (rw [decide_eq_false (fun z => n49 z.2.2)]; rfl) | (rw [decide_eq_false (fun z => n13 z.1)]; rfl) | (rw [decide_eq_false (fun z => absurd z.2.1 (by omega))]; rfl)) rfl
  · skip
    have n13 : (F (5 + 5 * r + 0)) = (F 85) := (nI_eq (a := (F (5 + 5 * r + 0))) (b := (F 85)) (by have := hFb (5 + 5 * r + 0); have := hFb 85; omega) (by have := hFb (5 + 5 * r + 0); have := hFb 85; omega)).mp c13
    refine j_aload_n EE 0 dX10_isPlayable_16 rfl rfl ?_
    refine j_get (T := TX10) EE iw_X10_isPlayable_X10 0 rfl rfl 0 (by decide) lk_X10_isPlayable_7 rfl dX10_isPlayable_17 ?_
    refine j_bipush (v := nI 86) EE dX10_isPlayable_20 (by decide) ?_
    refine j_iald EE 1 0 rfl rfl (vp_in_nI (n := 86) (by omega) (by decide)) dX10_isPlayable_22 ?_
    refine j_topE (congrArg (sA F) (nI_clamp (n := 86) (by omega))) ?_
    refine j_topE (y := nI (F 86)) (sA_n (by omega)) ?_
    refine j_if_le EE 56 dX10_isPlayable_23 (by decide) (fun c23 => ?_) (fun c23 => ?_)
    · skip
      have n23 : (F 86) ≤ 0 := (nI_leI (a := (F 86)) (b := 0) (by have := hFb 86; omega) (by have := hFb 86; omega)).mp c23
      refine j_iconst (v := nI 0) EE dX10_isPlayable_56 (by decide) ?_
      exact j_zret EE FF (by decide) dX10_isPlayable_57 () trivial (by unfold plB; first | (rw [decide_eq_true ⟨n13, by omega, n49⟩]; rfl) | (rw [decide_eq_false (fun z => n49 z.2.2)]; rfl) | (rw [decide_eq_false (fun z => n13 z.1)]; rfl) | (rw [decide_eq_false (fun z => absurd z.2.1 (by omega))]; rfl)) rfl
    · skip
      have n23 : ¬ (F 86) ≤ 0 := fun hq => c23 ((nI_leI (a := (F 86)) (b := 0) (by have := hFb 86; omega) (by have := hFb 86; omega)).mpr hq)
      refine j_aload_n EE 0 dX10_isPlayable_26 rfl rfl ?_
      refine j_iload_n EE 1 dX10_isPlayable_27 rfl rfl ?_
      refine j_iconst (v := nI 1) EE dX10_isPlayable_28 (by decide) ?_
      refine j_V2 (n9 := 14) EE (c_X10_ofRule h F Q ft B Bt a1 a2 a3 a4 a5 fr W M km le sp ro r 1 (by omega) (by omega)) gX10_isPlayable_X10_ofRule ⟨rfl, hd_X10_ofRule⟩ rfl ⟨rfl, rfl⟩ ⟨by decide, by decide⟩ rfl [0, 1, 2, 3, 4, 5, 6, 7, 8, 9, 10, 11, 12, 13] rfl [] [((h 0), .inr (6, [.ref ((h 1)), .ref ((h 2)), .ref ((h 3)), .int (nI km), .ref ((h 4)), .int (nI le), .int (nI sp), .ref ((h 5)), .ref ((h 6)), .int (nI ro), .ref ((h 7)), .ref ((h 8)), .ref ((h 9)), .ref ((h 10)), .ref ((h 11)), .ref ((h 12)), .ref ((h 13))])), ((h 1), .inl (cI, 99, .inl (sA F))), ((h 2), .inl (cI, 99, .inl fr)), ((h 3), .inl (cI, 594, .inl (kA Q))), ((h 4), .inl (cI, 200, .inl (fun zz => nI (ft zz)))), ((h 5), .inl (cI, 12, .inl (fun zz => nI (B zz)))), ((h 6), .inl (cI, 12, .inl (fun zz => nI (Bt zz)))), ((h 7), .inl (cJ, 16, .inr (.inl W))), ((h 8), .inl (cJ, 16, .inr (.inl M))), ((h 9), .inl (cI, 9, .inl (fun zz => nI (a1 zz)))), ((h 10), .inl (cI, 9, .inl (fun zz => nI (a2 zz)))), ((h 11), .inl (cI, 198, .inl (fun zz => nI (a3 zz)))), ((h 12), .inl (cI, 9, .inl (fun zz => nI (a4 zz)))), ((h 13), .inl (cI, 9, .inl (fA a5)))] (fun _ => rfl) [] [(h 0), (h 1), (h 2), (h 3), (h 4), (h 5), (h 6), (h 7), (h 8), (h 9), (h 10), (h 11), (h 12), (h 13)] rfl rfl rfl rfl rfl (by decide) (by decide) 0 rfl rfl rfl (Nat.le_of_ble_eq_true rfl) dX10_isPlayable_29 (fun u_29 h_29 => ?_) rfl
      show J l _ D ε _ _ _ (.int (nI (F (5 + 5 * r + 1))) :: _)
      refine j_aload_n EE 0 dX10_isPlayable_32 rfl rfl ?_
      refine j_get (T := TX10) EE iw_X10_isPlayable_X10 0 rfl rfl 0 (by decide) lk_X10_isPlayable_7 rfl dX10_isPlayable_33 ?_
      refine j_bipush (v := nI 87) EE dX10_isPlayable_36 (by decide) ?_
      refine j_aload_n EE 0 dX10_isPlayable_38 rfl rfl ?_
      refine j_get (T := TX10) EE iw_X10_isPlayable_X10 0 rfl rfl 0 (by decide) lk_X10_isPlayable_7 rfl dX10_isPlayable_39 ?_
      refine j_bipush (v := nI 86) EE dX10_isPlayable_42 (by decide) ?_
      refine j_iald EE 1 0 rfl rfl (vp_in_nI (n := 86) (by omega) (by decide)) dX10_isPlayable_44 ?_
      refine j_topE (congrArg (sA F) (nI_clamp (n := 86) (by omega))) ?_
      refine j_topE (y := nI (F 86)) (sA_n (by omega)) ?_
      refine j_iadd EE dX10_isPlayable_45 ?_
      refine j_topE (nI_add 87 (F 86)) ?_
      refine j_iconst (v := nI 1) EE dX10_isPlayable_46 (by decide) ?_
      refine j_isub EE dX10_isPlayable_47 ?_
      refine j_topE (pk_sub (a := 87 + (F 86)) (b := 1) (by have := hFb 86; omega)) ?_
      refine j_iald EE 1 0 rfl rfl (vp_in_nI (n := (87 + (F 86)) - 1) (by have := hFb 86; omega) (by decide)) dX10_isPlayable_48 ?_
      refine j_topE (congrArg (sA F) (nI_clamp (n := (87 + (F 86)) - 1) (by have := hFb 86; omega))) ?_
      refine j_topE (y := nI (F ((87 + (F 86)) - 1))) (sA_n (by have := hFb 86; omega)) ?_
      refine j_icmp_ne EE 56 dX10_isPlayable_49 (by decide) (fun c49 => ?_) (fun c49 => ?_)
      · skip
        have n49 : (F (5 + 5 * r + 1)) ≠ (F ((87 + (F 86)) - 1)) := fun hq => c49 ((nI_eq (a := (F (5 + 5 * r + 1))) (b := (F ((87 + (F 86)) - 1))) (by have := hFb (5 + 5 * r + 1); have := hFb ((87 + (F 86)) - 1); omega) (by have := hFb (5 + 5 * r + 1); have := hFb ((87 + (F 86)) - 1); omega)).mpr hq)
        refine j_iconst (v := nI 0) EE dX10_isPlayable_56 (by decide) ?_
        exact j_zret EE FF (by decide) dX10_isPlayable_57 () trivial (by unfold plB; first | (rw [decide_eq_true ⟨n13, by omega, n49⟩]; rfl) | (rw [decide_eq_false (fun z => n49 z.2.2)]; rfl) | (rw [decide_eq_false (fun z => n13 z.1)]; rfl) | (rw [decide_eq_false (fun z => absurd z.2.1 (by omega))]; rfl)) rfl
      · skip
        have n49 : (F (5 + 5 * r + 1)) = (F ((87 + (F 86)) - 1)) := (nI_eq (a := (F (5 + 5 * r + 1))) (b := (F ((87 + (F 86)) - 1))) (by have := hFb (5 + 5 * r + 1); have := hFb ((87 + (F 86)) - 1); omega) (by have := hFb (5 + 5 * r + 1); have := hFb ((87 + (F 86)) - 1); omega)).mp c49
        refine j_iconst (v := nI 1) EE dX10_isPlayable_52 (by decide) ?_
        refine j_goto EE 57 dX10_isPlayable_53 (by decide) ?_
        exact j_zret EE FF (by decide) dX10_isPlayable_57 () trivial (by unfold plB; first | (rw [decide_eq_true ⟨n13, by omega, n49⟩]; rfl) | (rw [decide_eq_false (fun z => n49 z.2.2)]; rfl) | (rw [decide_eq_false (fun z => n13 z.1)]; rfl) | (rw [decide_eq_false (fun z => absurd z.2.1 (by omega))]; rfl)) rfl

theorem iw_X10_playableRules_X10 : ∀ w ∈ wsX100, w ∈ wsX10_playableRules := fun _ h => List.mem_cons_of_mem _ (List.mem_append_right _ h)
theorem lk_X10_playableRules_7 : Cond.fieldLink RX10 7 (TX10 0).1 (TX10 0).2.1 (TX10 0).2.2.1 ∈ wsX10_playableRules := List.mem_of_getElem? (i := 1) rfl
theorem hd_X10_isPlayable : yX10_isPlayable.cls ≠ "java/lang/invoke/MethodHandle" ∧ yX10_isPlayable.cls ≠ "java/lang/invoke/VarHandle" ∧ (parseMethodDescriptor yX10_isPlayable.desc).map (fun d => d.parameters.length) = some 1 := by decide +kernel
set_option maxHeartbeats 4000000 in
set_option maxRecDepth 100000 in
theorem c_X10_playableRules (h F Q ft B Bt a1 a2 a3 a4 a5 : Nat → Nat) (fr : Nat → Int32) (W M : Nat → Int64) (km le sp ro : Nat) (hFb : ∀ i, F i < 65536) (hn : F 4 ≤ 16) (h12 : F 86 ≤ 12) : Ct l yX10_playableRules wsX10_playableRules (rmD (2)) D [(cI, .int), (cC, .char), (cJ, .long), (cG, .object "PushdownGameSolver$Game")] [.ref ((h 0))] [((h 0), .inr (6, [.ref ((h 1)), .ref ((h 2)), .ref ((h 3)), .int (nI km), .ref ((h 4)), .int (nI le), .int (nI sp), .ref ((h 5)), .ref ((h 6)), .int (nI ro), .ref ((h 7)), .ref ((h 8)), .ref ((h 9)), .ref ((h 10)), .ref ((h 11)), .ref ((h 12)), .ref ((h 13))])), ((h 1), .inl (cI, 99, .inl (sA F))), ((h 2), .inl (cI, 99, .inl fr)), ((h 3), .inl (cI, 594, .inl (kA Q))), ((h 4), .inl (cI, 200, .inl (fun zz => nI (ft zz)))), ((h 5), .inl (cI, 12, .inl (fun zz => nI (B zz)))), ((h 6), .inl (cI, 12, .inl (fun zz => nI (Bt zz)))), ((h 7), .inl (cJ, 16, .inr (.inl W))), ((h 8), .inl (cJ, 16, .inr (.inl M))), ((h 9), .inl (cI, 9, .inl (fun zz => nI (a1 zz)))), ((h 10), .inl (cI, 9, .inl (fun zz => nI (a2 zz)))), ((h 11), .inl (cI, 198, .inl (fun zz => nI (a3 zz)))), ((h 12), .inl (cI, 9, .inl (fun zz => nI (a4 zz)))), ((h 13), .inl (cI, 9, .inl (fA a5)))] (S := Unit) (fun _ => True) (fun _ => some (.int (nI (plN F (F 4))))) (fun _ => [((h 0), .inr (6, [.ref ((h 1)), .ref ((h 2)), .ref ((h 3)), .int (nI km), .ref ((h 4)), .int (nI le), .int (nI sp), .ref ((h 5)), .ref ((h 6)), .int (nI ro), .ref ((h 7)), .ref ((h 8)), .ref ((h 9)), .ref ((h 10)), .ref ((h 11)), .ref ((h 12)), .ref ((h 13))])), ((h 1), .inl (cI, 99, .inl (sA F))), ((h 2), .inl (cI, 99, .inl fr)), ((h 3), .inl (cI, 594, .inl (kA Q))), ((h 4), .inl (cI, 200, .inl (fun zz => nI (ft zz)))), ((h 5), .inl (cI, 12, .inl (fun zz => nI (B zz)))), ((h 6), .inl (cI, 12, .inl (fun zz => nI (Bt zz)))), ((h 7), .inl (cJ, 16, .inr (.inl W))), ((h 8), .inl (cJ, 16, .inr (.inl M))), ((h 9), .inl (cI, 9, .inl (fun zz => nI (a1 zz)))), ((h 10), .inl (cI, 9, .inl (fun zz => nI (a2 zz)))), ((h 11), .inl (cI, 198, .inl (fun zz => nI (a3 zz)))), ((h 12), .inl (cI, 9, .inl (fun zz => nI (a4 zz)))), ((h 13), .inl (cI, 9, .inl (fA a5)))]) := by
  refine Ct.of (lv := [(0, .ref ((h 0)))]) (by decide) rfl (Nat.le_of_ble_eq_true rfl) rfl ?_
  intro ε hL EE FF
  have Lp_4 : ∀ (nf : Nat), ∀ (i : Nat), 17 - i < nf → (i ≤ F 4) → J l (rmD (2)) D ε [((h 0), .inr (6, [.ref ((h 1)), .ref ((h 2)), .ref ((h 3)), .int (nI km), .ref ((h 4)), .int (nI le), .int (nI sp), .ref ((h 5)), .ref ((h 6)), .int (nI ro), .ref ((h 7)), .ref ((h 8)), .ref ((h 9)), .ref ((h 10)), .ref ((h 11)), .ref ((h 12)), .ref ((h 13))])), ((h 1), .inl (cI, 99, .inl (sA F))), ((h 2), .inl (cI, 99, .inl fr)), ((h 3), .inl (cI, 594, .inl (kA Q))), ((h 4), .inl (cI, 200, .inl (fun zz => nI (ft zz)))), ((h 5), .inl (cI, 12, .inl (fun zz => nI (B zz)))), ((h 6), .inl (cI, 12, .inl (fun zz => nI (Bt zz)))), ((h 7), .inl (cJ, 16, .inr (.inl W))), ((h 8), .inl (cJ, 16, .inr (.inl M))), ((h 9), .inl (cI, 9, .inl (fun zz => nI (a1 zz)))), ((h 10), .inl (cI, 9, .inl (fun zz => nI (a2 zz)))), ((h 11), .inl (cI, 198, .inl (fun zz => nI (a3 zz)))), ((h 12), .inl (cI, 9, .inl (fun zz => nI (a4 zz)))), ((h 13), .inl (cI, 9, .inl (fA a5)))] 4 [(2, .int (nI i)), (1, .int (nI (plN F i))), (0, .ref ((h 0)))] [] := by
    intro nf
    induction nf with
    | zero => intro i hm; exact absurd hm (Nat.not_lt_zero _)
    | succ nf ihp_4 =>
      intro i hm4 hi
      refine j_iload_n EE 0 dX10_playableRules_4 rfl rfl ?_
      refine j_aload_n EE 2 dX10_playableRules_5 rfl rfl ?_
      refine j_get (T := TX10) EE iw_X10_playableRules_X10 0 rfl rfl 0 (by decide) lk_X10_playableRules_7 rfl dX10_playableRules_6 ?_
      refine j_iconst (v := nI 4) EE dX10_playableRules_9 (by decide) ?_
      refine j_iald EE 1 0 rfl rfl (vp_in_nI (n := 4) (by omega) (by decide)) dX10_playableRules_10 ?_
      refine j_topE (congrArg (sA F) (nI_clamp (n := 4) (by omega))) ?_
      refine j_topE (y := nI (F 4)) (sA_n (by omega)) ?_
      refine j_icmp_ge EE 36 dX10_playableRules_11 (by decide) (fun c11 => ?_) (fun c11 => ?_)
      · skip
        have n11 : (F 4) ≤ i := (nI_leI (a := (F 4)) (b := i) (by have := hFb 4; omega) (by have := hFb 4; omega)).mp c11
        refine j_iload_n EE 1 dX10_playableRules_36 rfl rfl ?_
        exact j_iret EE FF dX10_playableRules_37 () trivial (by rw [show F 4 = i by omega]) rfl
      · skip
        have n11 : ¬ (F 4) ≤ i := fun hq => c11 ((nI_leI (a := (F 4)) (b := i) (by have := hFb 4; omega) (by have := hFb 4; omega)).mpr hq)
        refine j_iload_n EE 1 dX10_playableRules_14 rfl rfl ?_
        refine j_aload_n EE 2 dX10_playableRules_15 rfl rfl ?_
        refine j_iload_n EE 0 dX10_playableRules_16 rfl rfl ?_
        refine j_V2 (n9 := 14) EE (c_X10_isPlayable h F Q ft B Bt a1 a2 a3 a4 a5 fr W M km le sp ro i hFb (by omega) (by omega)) gX10_playableRules_X10_isPlayable ⟨rfl, hd_X10_isPlayable⟩ rfl ⟨rfl, rfl⟩ ⟨by decide, by decide⟩ rfl [0, 1, 2, 3, 4, 5, 6, 7, 8, 9, 10, 11, 12, 13] rfl [] [((h 0), .inr (6, [.ref ((h 1)), .ref ((h 2)), .ref ((h 3)), .int (nI km), .ref ((h 4)), .int (nI le), .int (nI sp), .ref ((h 5)), .ref ((h 6)), .int (nI ro), .ref ((h 7)), .ref ((h 8)), .ref ((h 9)), .ref ((h 10)), .ref ((h 11)), .ref ((h 12)), .ref ((h 13))])), ((h 1), .inl (cI, 99, .inl (sA F))), ((h 2), .inl (cI, 99, .inl fr)), ((h 3), .inl (cI, 594, .inl (kA Q))), ((h 4), .inl (cI, 200, .inl (fun zz => nI (ft zz)))), ((h 5), .inl (cI, 12, .inl (fun zz => nI (B zz)))), ((h 6), .inl (cI, 12, .inl (fun zz => nI (Bt zz)))), ((h 7), .inl (cJ, 16, .inr (.inl W))), ((h 8), .inl (cJ, 16, .inr (.inl M))), ((h 9), .inl (cI, 9, .inl (fun zz => nI (a1 zz)))), ((h 10), .inl (cI, 9, .inl (fun zz => nI (a2 zz)))), ((h 11), .inl (cI, 198, .inl (fun zz => nI (a3 zz)))), ((h 12), .inl (cI, 9, .inl (fun zz => nI (a4 zz)))), ((h 13), .inl (cI, 9, .inl (fA a5)))] (fun _ => rfl) [] [(h 0), (h 1), (h 2), (h 3), (h 4), (h 5), (h 6), (h 7), (h 8), (h 9), (h 10), (h 11), (h 12), (h 13)] rfl rfl rfl rfl rfl (by decide) (by decide) 0 rfl rfl rfl (Nat.le_of_ble_eq_true rfl) dX10_playableRules_17 (fun u_17 h_17 => ?_) rfl
        show J l _ D ε _ _ _ (.int (nI (b2n (plB F i))) :: _)
        refine j_if_eq EE 27 dX10_playableRules_20 (by decide) (fun c20 => ?_) (fun c20 => ?_)
        · skip
          have n20 : (b2n (plB F i)) = 0 := (nI_eq (a := (b2n (plB F i))) (b := 0) (by have := b2n_lt (plB F i); omega) (by have := b2n_lt (plB F i); omega)).mp c20
          refine j_iconst (v := nI 0) EE dX10_playableRules_27 (by decide) ?_
          refine j_iadd EE dX10_playableRules_28 ?_
          refine j_topE (nI_add (plN F i) 0) ?_
          refine j_istore_n EE [(1, _), (2, _), (0, _)] dX10_playableRules_29 rfl (Nat.lt_of_lt_of_eq (by decide) hL.symm) rfl ?_
          refine j_iinc (v := nI (i + 1)) EE 1 [(2, .int (nI (i + 1))), (1, _), (0, _)] dX10_playableRules_30 rfl (nI_1 i) (Nat.lt_of_lt_of_eq (by decide) hL.symm) rfl ?_
          refine j_goto EE 4 dX10_playableRules_33 (by decide) ?_
          first | rw [show plN F i + 1 = plN F (i + 1) by show _ = plN F i + b2n (plB F i); rw [b2n_ne0 n20]; rfl] | rw [show plN F i + 0 = plN F (i + 1) by show _ = plN F i + b2n (plB F i); rw [b2n_0 n20]; rfl]
          exact ihp_4 (i + 1) (by omega) (by omega)
        · skip
          have n20 : (b2n (plB F i)) ≠ 0 := fun hq => c20 ((nI_eq (a := (b2n (plB F i))) (b := 0) (by have := b2n_lt (plB F i); omega) (by have := b2n_lt (plB F i); omega)).mpr hq)
          refine j_iconst (v := nI 1) EE dX10_playableRules_23 (by decide) ?_
          refine j_goto EE 28 dX10_playableRules_24 (by decide) ?_
          refine j_iadd EE dX10_playableRules_28 ?_
          refine j_topE (nI_add (plN F i) 1) ?_
          refine j_istore_n EE [(1, _), (2, _), (0, _)] dX10_playableRules_29 rfl (Nat.lt_of_lt_of_eq (by decide) hL.symm) rfl ?_
          refine j_iinc (v := nI (i + 1)) EE 1 [(2, .int (nI (i + 1))), (1, _), (0, _)] dX10_playableRules_30 rfl (nI_1 i) (Nat.lt_of_lt_of_eq (by decide) hL.symm) rfl ?_
          refine j_goto EE 4 dX10_playableRules_33 (by decide) ?_
          first | rw [show plN F i + 1 = plN F (i + 1) by show _ = plN F i + b2n (plB F i); rw [b2n_ne0 n20]; rfl] | rw [show plN F i + 0 = plN F (i + 1) by show _ = plN F i + b2n (plB F i); rw [b2n_0 n20]; rfl]
          exact ihp_4 (i + 1) (by omega) (by omega)
  refine j_iconst (v := nI 0) EE dX10_playableRules_0 (by decide) ?_
  refine j_istore_n EE [(1, _), (0, _)] dX10_playableRules_1 rfl (Nat.lt_of_lt_of_eq (by decide) hL.symm) rfl ?_
  refine j_iconst (v := nI 0) EE dX10_playableRules_2 (by decide) ?_
  refine j_istore_n EE [(2, _), (1, _), (0, _)] dX10_playableRules_3 rfl (Nat.lt_of_lt_of_eq (by decide) hL.symm) rfl ?_
  exact Lp_4 _ 0 (Nat.lt_succ_self _) (by omega)

set_option maxHeartbeats 4000000 in
set_option maxRecDepth 100000 in
theorem c_X10_placeE (h F Q ft B Bt a1 a2 a3 a4 a5 : Nat → Nat) (fr : Nat → Int32) (W M : Nat → Int64) (km le sp ro : Nat) (x : Int32) (hFb : ∀ i, F i < 65536) (hi : inR x (F 0) = false) : Ct l yX10_place wsX10_place (rmD (3)) D [(cI, .int), (cC, .char), (cJ, .long), (cG, .object "PushdownGameSolver$Game")] [.ref ((h 0)), .int (x)] [((h 0), .inr (6, [.ref ((h 1)), .ref ((h 2)), .ref ((h 3)), .int (nI km), .ref ((h 4)), .int (nI le), .int (nI sp), .ref ((h 5)), .ref ((h 6)), .int (nI ro), .ref ((h 7)), .ref ((h 8)), .ref ((h 9)), .ref ((h 10)), .ref ((h 11)), .ref ((h 12)), .ref ((h 13))])), ((h 1), .inl (cI, 99, .inl (sA F))), ((h 2), .inl (cI, 99, .inl fr)), ((h 3), .inl (cI, 594, .inl (kA Q))), ((h 4), .inl (cI, 200, .inl (fun zz => nI (ft zz)))), ((h 5), .inl (cI, 12, .inl (fun zz => nI (B zz)))), ((h 6), .inl (cI, 12, .inl (fun zz => nI (Bt zz)))), ((h 7), .inl (cJ, 16, .inr (.inl W))), ((h 8), .inl (cJ, 16, .inr (.inl M))), ((h 9), .inl (cI, 9, .inl (fun zz => nI (a1 zz)))), ((h 10), .inl (cI, 9, .inl (fun zz => nI (a2 zz)))), ((h 11), .inl (cI, 198, .inl (fun zz => nI (a3 zz)))), ((h 12), .inl (cI, 9, .inl (fun zz => nI (a4 zz)))), ((h 13), .inl (cI, 9, .inl (fA a5)))] (S := Unit) (fun _ => True) (fun _ => some (.int ((-1)))) (fun _ => [((h 0), .inr (6, [.ref ((h 1)), .ref ((h 2)), .ref ((h 3)), .int (nI km), .ref ((h 4)), .int (nI le), .int (nI sp), .ref ((h 5)), .ref ((h 6)), .int (nI ro), .ref ((h 7)), .ref ((h 8)), .ref ((h 9)), .ref ((h 10)), .ref ((h 11)), .ref ((h 12)), .ref ((h 13))])), ((h 1), .inl (cI, 99, .inl (sA F))), ((h 2), .inl (cI, 99, .inl fr)), ((h 3), .inl (cI, 594, .inl (kA Q))), ((h 4), .inl (cI, 200, .inl (fun zz => nI (ft zz)))), ((h 5), .inl (cI, 12, .inl (fun zz => nI (B zz)))), ((h 6), .inl (cI, 12, .inl (fun zz => nI (Bt zz)))), ((h 7), .inl (cJ, 16, .inr (.inl W))), ((h 8), .inl (cJ, 16, .inr (.inl M))), ((h 9), .inl (cI, 9, .inl (fun zz => nI (a1 zz)))), ((h 10), .inl (cI, 9, .inl (fun zz => nI (a2 zz)))), ((h 11), .inl (cI, 198, .inl (fun zz => nI (a3 zz)))), ((h 12), .inl (cI, 9, .inl (fun zz => nI (a4 zz)))), ((h 13), .inl (cI, 9, .inl (fA a5)))]) := by
  refine Ct.of (lv := [(0, .ref ((h 0))), (1, .int (x))]) (by decide) rfl (Nat.le_of_ble_eq_true rfl) rfl ?_
  intro ε hL EE FF
  refine j_aload_n EE 0 dX10_place_0 rfl rfl ?_
  refine j_iload_n EE 1 dX10_place_1 rfl rfl ?_
  refine j_V2 (n9 := 14) EE (c_X10_isState h F Q ft B Bt a1 a2 a3 a4 a5 fr W M km le sp ro x hFb) gX10_place_X10_isState ⟨rfl, hd_X10_isState⟩ rfl ⟨rfl, rfl⟩ ⟨by decide, by decide⟩ rfl [0, 1, 2, 3, 4, 5, 6, 7, 8, 9, 10, 11, 12, 13] rfl [] [((h 0), .inr (6, [.ref ((h 1)), .ref ((h 2)), .ref ((h 3)), .int (nI km), .ref ((h 4)), .int (nI le), .int (nI sp), .ref ((h 5)), .ref ((h 6)), .int (nI ro), .ref ((h 7)), .ref ((h 8)), .ref ((h 9)), .ref ((h 10)), .ref ((h 11)), .ref ((h 12)), .ref ((h 13))])), ((h 1), .inl (cI, 99, .inl (sA F))), ((h 2), .inl (cI, 99, .inl fr)), ((h 3), .inl (cI, 594, .inl (kA Q))), ((h 4), .inl (cI, 200, .inl (fun zz => nI (ft zz)))), ((h 5), .inl (cI, 12, .inl (fun zz => nI (B zz)))), ((h 6), .inl (cI, 12, .inl (fun zz => nI (Bt zz)))), ((h 7), .inl (cJ, 16, .inr (.inl W))), ((h 8), .inl (cJ, 16, .inr (.inl M))), ((h 9), .inl (cI, 9, .inl (fun zz => nI (a1 zz)))), ((h 10), .inl (cI, 9, .inl (fun zz => nI (a2 zz)))), ((h 11), .inl (cI, 198, .inl (fun zz => nI (a3 zz)))), ((h 12), .inl (cI, 9, .inl (fun zz => nI (a4 zz)))), ((h 13), .inl (cI, 9, .inl (fA a5)))] (fun _ => rfl) [] [(h 0), (h 1), (h 2), (h 3), (h 4), (h 5), (h 6), (h 7), (h 8), (h 9), (h 10), (h 11), (h 12), (h 13)] rfl rfl rfl rfl rfl (by decide) (by decide) 0 rfl rfl rfl (Nat.le_of_ble_eq_true rfl) dX10_place_2 (fun u_2 h_2 => ?_) rfl
  show J l _ D ε _ _ _ (.int (nI (b2n (inR x (F 0)))) :: _)
  refine j_if_ne EE 10 dX10_place_5 (by decide) (fun c5 => absurd (by rw [hi]; rfl) c5) (fun c5 => ?_)
  have n5 : (b2n (inR x (F 0))) = 0 := (nI_eq (a := (b2n (inR x (F 0)))) (b := 0) (by have := b2n_lt (inR x (F 0)); omega) (by have := b2n_lt (inR x (F 0)); omega)).mp c5
  refine j_iconst (v := (-1)) EE dX10_place_8 (by decide) ?_
  exact j_iret EE FF dX10_place_9 () trivial (by first | rfl | simp_all) rfl

theorem hd_X10_keeps : yX10_keeps.cls ≠ "java/lang/invoke/MethodHandle" ∧ yX10_keeps.cls ≠ "java/lang/invoke/VarHandle" ∧ (parseMethodDescriptor yX10_keeps.desc).map (fun d => d.parameters.length) = some 0 := by decide +kernel
theorem iw_X10_place_X10 : ∀ w ∈ wsX100, w ∈ wsX10_place := fun _ h => List.mem_cons_of_mem _ (List.mem_append_right _ h)
theorem lk_X10_place_7 : Cond.fieldLink RX10 7 (TX10 0).1 (TX10 0).2.1 (TX10 0).2.2.1 ∈ wsX10_place := List.mem_of_getElem? (i := 1) rfl
set_option maxHeartbeats 4000000 in
set_option maxRecDepth 100000 in
theorem c_X10_place (h F Q ft B Bt a1 a2 a3 a4 a5 : Nat → Nat) (fr : Nat → Int32) (W M : Nat → Int64) (km le sp ro : Nat) (j : Nat) (hFb : ∀ i, F i < 65536) (hj : j < F 0) (hkm : km ≤ 6) : Ct l yX10_place wsX10_place (rmD (3)) D [(cI, .int), (cC, .char), (cJ, .long), (cG, .object "PushdownGameSolver$Game")] [.ref ((h 0)), .int (nI j)] [((h 0), .inr (6, [.ref ((h 1)), .ref ((h 2)), .ref ((h 3)), .int (nI km), .ref ((h 4)), .int (nI le), .int (nI sp), .ref ((h 5)), .ref ((h 6)), .int (nI ro), .ref ((h 7)), .ref ((h 8)), .ref ((h 9)), .ref ((h 10)), .ref ((h 11)), .ref ((h 12)), .ref ((h 13))])), ((h 1), .inl (cI, 99, .inl (sA F))), ((h 2), .inl (cI, 99, .inl fr)), ((h 3), .inl (cI, 594, .inl (kA Q))), ((h 4), .inl (cI, 200, .inl (fun zz => nI (ft zz)))), ((h 5), .inl (cI, 12, .inl (fun zz => nI (B zz)))), ((h 6), .inl (cI, 12, .inl (fun zz => nI (Bt zz)))), ((h 7), .inl (cJ, 16, .inr (.inl W))), ((h 8), .inl (cJ, 16, .inr (.inl M))), ((h 9), .inl (cI, 9, .inl (fun zz => nI (a1 zz)))), ((h 10), .inl (cI, 9, .inl (fun zz => nI (a2 zz)))), ((h 11), .inl (cI, 198, .inl (fun zz => nI (a3 zz)))), ((h 12), .inl (cI, 9, .inl (fun zz => nI (a4 zz)))), ((h 13), .inl (cI, 9, .inl (fA a5)))] (S := Unit) (fun _ => True) (fun _ => some (.int (nI (F 86)))) (fun _ => [((h 0), .inr (6, [.ref ((h 1)), .ref ((h 2)), .ref ((h 3)), .int (nI (min (km + 1) 6)), .ref ((h 4)), .int (nI le), .int (nI sp), .ref ((h 5)), .ref ((h 6)), .int (nI ro), .ref ((h 7)), .ref ((h 8)), .ref ((h 9)), .ref ((h 10)), .ref ((h 11)), .ref ((h 12)), .ref ((h 13))])), ((h 1), .inl (cI, 99, .inl (sA (updN (updN F 85 j) 86 0)))), ((h 2), .inl (cI, 99, .inl fr)), ((h 3), .inl (cI, 594, .inl (kA (kpQ km Q F)))), ((h 4), .inl (cI, 200, .inl (fun zz => nI (ft zz)))), ((h 5), .inl (cI, 12, .inl (fun zz => nI (B zz)))), ((h 6), .inl (cI, 12, .inl (fun zz => nI (Bt zz)))), ((h 7), .inl (cJ, 16, .inr (.inl W))), ((h 8), .inl (cJ, 16, .inr (.inl M))), ((h 9), .inl (cI, 9, .inl (fun zz => nI (a1 zz)))), ((h 10), .inl (cI, 9, .inl (fun zz => nI (a2 zz)))), ((h 11), .inl (cI, 198, .inl (fun zz => nI (a3 zz)))), ((h 12), .inl (cI, 9, .inl (fun zz => nI (a4 zz)))), ((h 13), .inl (cI, 9, .inl (fA a5)))]) := by
  refine Ct.of (lv := [(0, .ref ((h 0))), (1, .int (nI j))]) (by decide) rfl (Nat.le_of_ble_eq_true rfl) rfl ?_
  intro ε hL EE FF
  have hb9 := hFb 0
  refine j_aload_n EE 0 dX10_place_0 rfl rfl ?_
  refine j_iload_n EE 1 dX10_place_1 rfl rfl ?_
  refine j_V2 (n9 := 14) EE (c_X10_isState h F Q ft B Bt a1 a2 a3 a4 a5 fr W M km le sp ro (nI j) hFb) gX10_place_X10_isState ⟨rfl, hd_X10_isState⟩ rfl ⟨rfl, rfl⟩ ⟨by decide, by decide⟩ rfl [0, 1, 2, 3, 4, 5, 6, 7, 8, 9, 10, 11, 12, 13] rfl [] [((h 0), .inr (6, [.ref ((h 1)), .ref ((h 2)), .ref ((h 3)), .int (nI km), .ref ((h 4)), .int (nI le), .int (nI sp), .ref ((h 5)), .ref ((h 6)), .int (nI ro), .ref ((h 7)), .ref ((h 8)), .ref ((h 9)), .ref ((h 10)), .ref ((h 11)), .ref ((h 12)), .ref ((h 13))])), ((h 1), .inl (cI, 99, .inl (sA F))), ((h 2), .inl (cI, 99, .inl fr)), ((h 3), .inl (cI, 594, .inl (kA Q))), ((h 4), .inl (cI, 200, .inl (fun zz => nI (ft zz)))), ((h 5), .inl (cI, 12, .inl (fun zz => nI (B zz)))), ((h 6), .inl (cI, 12, .inl (fun zz => nI (Bt zz)))), ((h 7), .inl (cJ, 16, .inr (.inl W))), ((h 8), .inl (cJ, 16, .inr (.inl M))), ((h 9), .inl (cI, 9, .inl (fun zz => nI (a1 zz)))), ((h 10), .inl (cI, 9, .inl (fun zz => nI (a2 zz)))), ((h 11), .inl (cI, 198, .inl (fun zz => nI (a3 zz)))), ((h 12), .inl (cI, 9, .inl (fun zz => nI (a4 zz)))), ((h 13), .inl (cI, 9, .inl (fA a5)))] (fun _ => rfl) [] [(h 0), (h 1), (h 2), (h 3), (h 4), (h 5), (h 6), (h 7), (h 8), (h 9), (h 10), (h 11), (h 12), (h 13)] rfl rfl rfl rfl rfl (by decide) (by decide) 0 rfl rfl rfl (Nat.le_of_ble_eq_true rfl) dX10_place_2 (fun u_2 h_2 => ?_) rfl
  show J l _ D ε _ _ _ (.int (nI (b2n (inR (nI j) (F 0)))) :: _)
  refine j_if_ne EE 10 dX10_place_5 (by decide) (fun c5 => ?_) (fun c5 => absurd c5 (by rw [inR_nI hj (by omega)]; decide))
  have n5 : (b2n (inR (nI j) (F 0))) ≠ 0 := fun hq => c5 ((nI_eq (a := (b2n (inR (nI j) (F 0)))) (b := 0) (by have := b2n_lt (inR (nI j) (F 0)); omega) (by have := b2n_lt (inR (nI j) (F 0)); omega)).mpr hq)
  refine j_aload_n EE 0 dX10_place_10 rfl rfl ?_
  refine j_V2 (n9 := 14) EE (c_X10_keepsC h F Q ft B Bt a1 a2 a3 a4 a5 fr W M km le sp ro hkm) gX10_place_X10_keeps ⟨rfl, hd_X10_keeps⟩ rfl ⟨rfl, rfl⟩ ⟨by decide, by decide⟩ rfl [0, 1, 2, 3, 4, 5, 6, 7, 8, 9, 10, 11, 12, 13] rfl [] [((h 0), .inr (6, [.ref ((h 1)), .ref ((h 2)), .ref ((h 3)), .int (nI (min (km + 1) 6)), .ref ((h 4)), .int (nI le), .int (nI sp), .ref ((h 5)), .ref ((h 6)), .int (nI ro), .ref ((h 7)), .ref ((h 8)), .ref ((h 9)), .ref ((h 10)), .ref ((h 11)), .ref ((h 12)), .ref ((h 13))])), ((h 1), .inl (cI, 99, .inl (sA F))), ((h 2), .inl (cI, 99, .inl fr)), ((h 3), .inl (cI, 594, .inl (kA (kpQ km Q F)))), ((h 4), .inl (cI, 200, .inl (fun zz => nI (ft zz)))), ((h 5), .inl (cI, 12, .inl (fun zz => nI (B zz)))), ((h 6), .inl (cI, 12, .inl (fun zz => nI (Bt zz)))), ((h 7), .inl (cJ, 16, .inr (.inl W))), ((h 8), .inl (cJ, 16, .inr (.inl M))), ((h 9), .inl (cI, 9, .inl (fun zz => nI (a1 zz)))), ((h 10), .inl (cI, 9, .inl (fun zz => nI (a2 zz)))), ((h 11), .inl (cI, 198, .inl (fun zz => nI (a3 zz)))), ((h 12), .inl (cI, 9, .inl (fun zz => nI (a4 zz)))), ((h 13), .inl (cI, 9, .inl (fA a5)))] (fun _ => rfl) [] [(h 0), (h 1), (h 2), (h 3), (h 4), (h 5), (h 6), (h 7), (h 8), (h 9), (h 10), (h 11), (h 12), (h 13)] rfl rfl rfl rfl rfl (by decide) (by decide) 0 rfl rfl rfl (Nat.le_of_ble_eq_true rfl) dX10_place_11 (fun u_11 h_11 => ?_) rfl
  refine j_aload_n EE 0 dX10_place_14 rfl rfl ?_
  refine j_get (T := TX10) EE iw_X10_place_X10 0 rfl rfl 0 (by decide) lk_X10_place_7 rfl dX10_place_15 ?_
  refine j_bipush (v := nI 86) EE dX10_place_18 (by decide) ?_
  refine j_iald EE 1 0 rfl rfl (vp_in_nI (n := 86) (by omega) (by decide)) dX10_place_20 ?_
  refine j_topE (congrArg (sA F) (nI_clamp (n := 86) (by omega))) ?_
  refine j_topE (y := nI (F 86)) (sA_n (by omega)) ?_
  refine j_istore_n EE [(2, _), (0, _), (1, _)] dX10_place_21 rfl (Nat.lt_of_lt_of_eq (by decide) hL.symm) rfl ?_
  refine j_aload_n EE 1 dX10_place_22 rfl rfl ?_
  refine j_get (T := TX10) EE iw_X10_place_X10 0 rfl rfl 0 (by decide) lk_X10_place_7 rfl dX10_place_23 ?_
  refine j_bipush (v := nI 85) EE dX10_place_26 (by decide) ?_
  refine j_iload_n EE 2 dX10_place_28 rfl rfl ?_
  refine j_iast (ws' := [((h 0), .inr (6, [.ref ((h 1)), .ref ((h 2)), .ref ((h 3)), .int (nI (min (km + 1) 6)), .ref ((h 4)), .int (nI le), .int (nI sp), .ref ((h 5)), .ref ((h 6)), .int (nI ro), .ref ((h 7)), .ref ((h 8)), .ref ((h 9)), .ref ((h 10)), .ref ((h 11)), .ref ((h 12)), .ref ((h 13))])), ((h 1), .inl (cI, 99, .inl (sA (updN F 85 j)))), ((h 2), .inl (cI, 99, .inl fr)), ((h 3), .inl (cI, 594, .inl (kA (kpQ km Q F)))), ((h 4), .inl (cI, 200, .inl (fun zz => nI (ft zz)))), ((h 5), .inl (cI, 12, .inl (fun zz => nI (B zz)))), ((h 6), .inl (cI, 12, .inl (fun zz => nI (Bt zz)))), ((h 7), .inl (cJ, 16, .inr (.inl W))), ((h 8), .inl (cJ, 16, .inr (.inl M))), ((h 9), .inl (cI, 9, .inl (fun zz => nI (a1 zz)))), ((h 10), .inl (cI, 9, .inl (fun zz => nI (a2 zz)))), ((h 11), .inl (cI, 198, .inl (fun zz => nI (a3 zz)))), ((h 12), .inl (cI, 9, .inl (fun zz => nI (a4 zz)))), ((h 13), .inl (cI, 9, .inl (fA a5)))]) EE 1 0 rfl rfl (vp_in_nI (n := 85) (by omega) (by decide)) (by rw [nI_clamp (by omega), upd_sAn (by omega)]; rfl) dX10_place_29 ?_
  refine j_aload_n EE 1 dX10_place_30 rfl rfl ?_
  refine j_get (T := TX10) EE iw_X10_place_X10 0 rfl rfl 0 (by decide) lk_X10_place_7 rfl dX10_place_31 ?_
  refine j_bipush (v := nI 86) EE dX10_place_34 (by decide) ?_
  refine j_iconst (v := nI 0) EE dX10_place_36 (by decide) ?_
  refine j_iast (ws' := [((h 0), .inr (6, [.ref ((h 1)), .ref ((h 2)), .ref ((h 3)), .int (nI (min (km + 1) 6)), .ref ((h 4)), .int (nI le), .int (nI sp), .ref ((h 5)), .ref ((h 6)), .int (nI ro), .ref ((h 7)), .ref ((h 8)), .ref ((h 9)), .ref ((h 10)), .ref ((h 11)), .ref ((h 12)), .ref ((h 13))])), ((h 1), .inl (cI, 99, .inl (sA (updN (updN F 85 j) 86 0)))), ((h 2), .inl (cI, 99, .inl fr)), ((h 3), .inl (cI, 594, .inl (kA (kpQ km Q F)))), ((h 4), .inl (cI, 200, .inl (fun zz => nI (ft zz)))), ((h 5), .inl (cI, 12, .inl (fun zz => nI (B zz)))), ((h 6), .inl (cI, 12, .inl (fun zz => nI (Bt zz)))), ((h 7), .inl (cJ, 16, .inr (.inl W))), ((h 8), .inl (cJ, 16, .inr (.inl M))), ((h 9), .inl (cI, 9, .inl (fun zz => nI (a1 zz)))), ((h 10), .inl (cI, 9, .inl (fun zz => nI (a2 zz)))), ((h 11), .inl (cI, 198, .inl (fun zz => nI (a3 zz)))), ((h 12), .inl (cI, 9, .inl (fun zz => nI (a4 zz)))), ((h 13), .inl (cI, 9, .inl (fA a5)))]) EE 1 0 rfl rfl (vp_in_nI (n := 86) (by omega) (by decide)) (by rw [nI_clamp (by omega), upd_sAn (by omega)]; rfl) dX10_place_37 ?_
  refine j_iload_n EE 0 dX10_place_38 rfl rfl ?_
  exact j_iret EE FF dX10_place_39 () trivial (by first | rfl | simp_all) rfl

theorem hd_X10_isSymbol : yX10_isSymbol.cls ≠ "java/lang/invoke/MethodHandle" ∧ yX10_isSymbol.cls ≠ "java/lang/invoke/VarHandle" ∧ (parseMethodDescriptor yX10_isSymbol.desc).map (fun d => d.parameters.length) = some 1 := by decide +kernel
set_option maxHeartbeats 4000000 in
set_option maxRecDepth 100000 in
theorem c_X10_pushE (h F Q ft B Bt a1 a2 a3 a4 a5 : Nat → Nat) (fr : Nat → Int32) (W M : Nat → Int64) (km le sp ro : Nat) (x : Int32) (hFb : ∀ i, F i < 65536) (hi : inR x (F 1) = false) : Ct l yX10_push wsX10_push (rmD (3)) D [(cI, .int), (cC, .char), (cJ, .long), (cG, .object "PushdownGameSolver$Game")] [.ref ((h 0)), .int (x)] [((h 0), .inr (6, [.ref ((h 1)), .ref ((h 2)), .ref ((h 3)), .int (nI km), .ref ((h 4)), .int (nI le), .int (nI sp), .ref ((h 5)), .ref ((h 6)), .int (nI ro), .ref ((h 7)), .ref ((h 8)), .ref ((h 9)), .ref ((h 10)), .ref ((h 11)), .ref ((h 12)), .ref ((h 13))])), ((h 1), .inl (cI, 99, .inl (sA F))), ((h 2), .inl (cI, 99, .inl fr)), ((h 3), .inl (cI, 594, .inl (kA Q))), ((h 4), .inl (cI, 200, .inl (fun zz => nI (ft zz)))), ((h 5), .inl (cI, 12, .inl (fun zz => nI (B zz)))), ((h 6), .inl (cI, 12, .inl (fun zz => nI (Bt zz)))), ((h 7), .inl (cJ, 16, .inr (.inl W))), ((h 8), .inl (cJ, 16, .inr (.inl M))), ((h 9), .inl (cI, 9, .inl (fun zz => nI (a1 zz)))), ((h 10), .inl (cI, 9, .inl (fun zz => nI (a2 zz)))), ((h 11), .inl (cI, 198, .inl (fun zz => nI (a3 zz)))), ((h 12), .inl (cI, 9, .inl (fun zz => nI (a4 zz)))), ((h 13), .inl (cI, 9, .inl (fA a5)))] (S := Unit) (fun _ => True) (fun _ => some (.int ((-1)))) (fun _ => [((h 0), .inr (6, [.ref ((h 1)), .ref ((h 2)), .ref ((h 3)), .int (nI km), .ref ((h 4)), .int (nI le), .int (nI sp), .ref ((h 5)), .ref ((h 6)), .int (nI ro), .ref ((h 7)), .ref ((h 8)), .ref ((h 9)), .ref ((h 10)), .ref ((h 11)), .ref ((h 12)), .ref ((h 13))])), ((h 1), .inl (cI, 99, .inl (sA F))), ((h 2), .inl (cI, 99, .inl fr)), ((h 3), .inl (cI, 594, .inl (kA Q))), ((h 4), .inl (cI, 200, .inl (fun zz => nI (ft zz)))), ((h 5), .inl (cI, 12, .inl (fun zz => nI (B zz)))), ((h 6), .inl (cI, 12, .inl (fun zz => nI (Bt zz)))), ((h 7), .inl (cJ, 16, .inr (.inl W))), ((h 8), .inl (cJ, 16, .inr (.inl M))), ((h 9), .inl (cI, 9, .inl (fun zz => nI (a1 zz)))), ((h 10), .inl (cI, 9, .inl (fun zz => nI (a2 zz)))), ((h 11), .inl (cI, 198, .inl (fun zz => nI (a3 zz)))), ((h 12), .inl (cI, 9, .inl (fun zz => nI (a4 zz)))), ((h 13), .inl (cI, 9, .inl (fA a5)))]) := by
  refine Ct.of (lv := [(0, .ref ((h 0))), (1, .int (x))]) (by decide) rfl (Nat.le_of_ble_eq_true rfl) rfl ?_
  intro ε hL EE FF
  refine j_aload_n EE 0 dX10_push_0 rfl rfl ?_
  refine j_iload_n EE 1 dX10_push_1 rfl rfl ?_
  refine j_V2 (n9 := 14) EE (c_X10_isSymbol h F Q ft B Bt a1 a2 a3 a4 a5 fr W M km le sp ro x hFb) gX10_push_X10_isSymbol ⟨rfl, hd_X10_isSymbol⟩ rfl ⟨rfl, rfl⟩ ⟨by decide, by decide⟩ rfl [0, 1, 2, 3, 4, 5, 6, 7, 8, 9, 10, 11, 12, 13] rfl [] [((h 0), .inr (6, [.ref ((h 1)), .ref ((h 2)), .ref ((h 3)), .int (nI km), .ref ((h 4)), .int (nI le), .int (nI sp), .ref ((h 5)), .ref ((h 6)), .int (nI ro), .ref ((h 7)), .ref ((h 8)), .ref ((h 9)), .ref ((h 10)), .ref ((h 11)), .ref ((h 12)), .ref ((h 13))])), ((h 1), .inl (cI, 99, .inl (sA F))), ((h 2), .inl (cI, 99, .inl fr)), ((h 3), .inl (cI, 594, .inl (kA Q))), ((h 4), .inl (cI, 200, .inl (fun zz => nI (ft zz)))), ((h 5), .inl (cI, 12, .inl (fun zz => nI (B zz)))), ((h 6), .inl (cI, 12, .inl (fun zz => nI (Bt zz)))), ((h 7), .inl (cJ, 16, .inr (.inl W))), ((h 8), .inl (cJ, 16, .inr (.inl M))), ((h 9), .inl (cI, 9, .inl (fun zz => nI (a1 zz)))), ((h 10), .inl (cI, 9, .inl (fun zz => nI (a2 zz)))), ((h 11), .inl (cI, 198, .inl (fun zz => nI (a3 zz)))), ((h 12), .inl (cI, 9, .inl (fun zz => nI (a4 zz)))), ((h 13), .inl (cI, 9, .inl (fA a5)))] (fun _ => rfl) [] [(h 0), (h 1), (h 2), (h 3), (h 4), (h 5), (h 6), (h 7), (h 8), (h 9), (h 10), (h 11), (h 12), (h 13)] rfl rfl rfl rfl rfl (by decide) (by decide) 0 rfl rfl rfl (Nat.le_of_ble_eq_true rfl) dX10_push_2 (fun u_2 h_2 => ?_) rfl
  show J l _ D ε _ _ _ (.int (nI (b2n (inR x (F 1)))) :: _)
  refine j_if_ne EE 10 dX10_push_5 (by decide) (fun c5 => absurd (by rw [hi]; rfl) c5) (fun c5 => ?_)
  have n5 : (b2n (inR x (F 1))) = 0 := (nI_eq (a := (b2n (inR x (F 1)))) (b := 0) (by have := b2n_lt (inR x (F 1)); omega) (by have := b2n_lt (inR x (F 1)); omega)).mp c5
  refine j_iconst (v := (-1)) EE dX10_push_8 (by decide) ?_
  exact j_iret EE FF dX10_push_9 () trivial (by first | rfl | simp_all) rfl

theorem iw_X10_push_X10 : ∀ w ∈ wsX100, w ∈ wsX10_push := fun _ h => List.mem_cons_of_mem _ (List.mem_append_right _ h)
theorem lk_X10_push_7 : Cond.fieldLink RX10 7 (TX10 0).1 (TX10 0).2.1 (TX10 0).2.2.1 ∈ wsX10_push := List.mem_of_getElem? (i := 1) rfl
set_option maxHeartbeats 4000000 in
set_option maxRecDepth 100000 in
theorem c_X10_pushF (h F Q ft B Bt a1 a2 a3 a4 a5 : Nat → Nat) (fr : Nat → Int32) (W M : Nat → Int64) (km le sp ro : Nat) (j : Nat) (hFb : ∀ i, F i < 65536) (hj : j < F 1) (h12 : F 86 = 12) : Ct l yX10_push wsX10_push (rmD (3)) D [(cI, .int), (cC, .char), (cJ, .long), (cG, .object "PushdownGameSolver$Game")] [.ref ((h 0)), .int (nI j)] [((h 0), .inr (6, [.ref ((h 1)), .ref ((h 2)), .ref ((h 3)), .int (nI km), .ref ((h 4)), .int (nI le), .int (nI sp), .ref ((h 5)), .ref ((h 6)), .int (nI ro), .ref ((h 7)), .ref ((h 8)), .ref ((h 9)), .ref ((h 10)), .ref ((h 11)), .ref ((h 12)), .ref ((h 13))])), ((h 1), .inl (cI, 99, .inl (sA F))), ((h 2), .inl (cI, 99, .inl fr)), ((h 3), .inl (cI, 594, .inl (kA Q))), ((h 4), .inl (cI, 200, .inl (fun zz => nI (ft zz)))), ((h 5), .inl (cI, 12, .inl (fun zz => nI (B zz)))), ((h 6), .inl (cI, 12, .inl (fun zz => nI (Bt zz)))), ((h 7), .inl (cJ, 16, .inr (.inl W))), ((h 8), .inl (cJ, 16, .inr (.inl M))), ((h 9), .inl (cI, 9, .inl (fun zz => nI (a1 zz)))), ((h 10), .inl (cI, 9, .inl (fun zz => nI (a2 zz)))), ((h 11), .inl (cI, 198, .inl (fun zz => nI (a3 zz)))), ((h 12), .inl (cI, 9, .inl (fun zz => nI (a4 zz)))), ((h 13), .inl (cI, 9, .inl (fA a5)))] (S := Unit) (fun _ => True) (fun _ => some (.int ((-3)))) (fun _ => [((h 0), .inr (6, [.ref ((h 1)), .ref ((h 2)), .ref ((h 3)), .int (nI km), .ref ((h 4)), .int (nI le), .int (nI sp), .ref ((h 5)), .ref ((h 6)), .int (nI ro), .ref ((h 7)), .ref ((h 8)), .ref ((h 9)), .ref ((h 10)), .ref ((h 11)), .ref ((h 12)), .ref ((h 13))])), ((h 1), .inl (cI, 99, .inl (sA F))), ((h 2), .inl (cI, 99, .inl fr)), ((h 3), .inl (cI, 594, .inl (kA Q))), ((h 4), .inl (cI, 200, .inl (fun zz => nI (ft zz)))), ((h 5), .inl (cI, 12, .inl (fun zz => nI (B zz)))), ((h 6), .inl (cI, 12, .inl (fun zz => nI (Bt zz)))), ((h 7), .inl (cJ, 16, .inr (.inl W))), ((h 8), .inl (cJ, 16, .inr (.inl M))), ((h 9), .inl (cI, 9, .inl (fun zz => nI (a1 zz)))), ((h 10), .inl (cI, 9, .inl (fun zz => nI (a2 zz)))), ((h 11), .inl (cI, 198, .inl (fun zz => nI (a3 zz)))), ((h 12), .inl (cI, 9, .inl (fun zz => nI (a4 zz)))), ((h 13), .inl (cI, 9, .inl (fA a5)))]) := by
  refine Ct.of (lv := [(0, .ref ((h 0))), (1, .int (nI j))]) (by decide) rfl (Nat.le_of_ble_eq_true rfl) rfl ?_
  intro ε hL EE FF
  have hb9 := hFb 1
  refine j_aload_n EE 0 dX10_push_0 rfl rfl ?_
  refine j_iload_n EE 1 dX10_push_1 rfl rfl ?_
  refine j_V2 (n9 := 14) EE (c_X10_isSymbol h F Q ft B Bt a1 a2 a3 a4 a5 fr W M km le sp ro (nI j) hFb) gX10_push_X10_isSymbol ⟨rfl, hd_X10_isSymbol⟩ rfl ⟨rfl, rfl⟩ ⟨by decide, by decide⟩ rfl [0, 1, 2, 3, 4, 5, 6, 7, 8, 9, 10, 11, 12, 13] rfl [] [((h 0), .inr (6, [.ref ((h 1)), .ref ((h 2)), .ref ((h 3)), .int (nI km), .ref ((h 4)), .int (nI le), .int (nI sp), .ref ((h 5)), .ref ((h 6)), .int (nI ro), .ref ((h 7)), .ref ((h 8)), .ref ((h 9)), .ref ((h 10)), .ref ((h 11)), .ref ((h 12)), .ref ((h 13))])), ((h 1), .inl (cI, 99, .inl (sA F))), ((h 2), .inl (cI, 99, .inl fr)), ((h 3), .inl (cI, 594, .inl (kA Q))), ((h 4), .inl (cI, 200, .inl (fun zz => nI (ft zz)))), ((h 5), .inl (cI, 12, .inl (fun zz => nI (B zz)))), ((h 6), .inl (cI, 12, .inl (fun zz => nI (Bt zz)))), ((h 7), .inl (cJ, 16, .inr (.inl W))), ((h 8), .inl (cJ, 16, .inr (.inl M))), ((h 9), .inl (cI, 9, .inl (fun zz => nI (a1 zz)))), ((h 10), .inl (cI, 9, .inl (fun zz => nI (a2 zz)))), ((h 11), .inl (cI, 198, .inl (fun zz => nI (a3 zz)))), ((h 12), .inl (cI, 9, .inl (fun zz => nI (a4 zz)))), ((h 13), .inl (cI, 9, .inl (fA a5)))] (fun _ => rfl) [] [(h 0), (h 1), (h 2), (h 3), (h 4), (h 5), (h 6), (h 7), (h 8), (h 9), (h 10), (h 11), (h 12), (h 13)] rfl rfl rfl rfl rfl (by decide) (by decide) 0 rfl rfl rfl (Nat.le_of_ble_eq_true rfl) dX10_push_2 (fun u_2 h_2 => ?_) rfl
  show J l _ D ε _ _ _ (.int (nI (b2n (inR (nI j) (F 1)))) :: _)
  refine j_if_ne EE 10 dX10_push_5 (by decide) (fun c5 => ?_) (fun c5 => absurd c5 (by rw [inR_nI hj (by omega)]; decide))
  have n5 : (b2n (inR (nI j) (F 1))) ≠ 0 := fun hq => c5 ((nI_eq (a := (b2n (inR (nI j) (F 1)))) (b := 0) (by have := b2n_lt (inR (nI j) (F 1)); omega) (by have := b2n_lt (inR (nI j) (F 1)); omega)).mpr hq)
  refine j_aload_n EE 0 dX10_push_10 rfl rfl ?_
  refine j_get (T := TX10) EE iw_X10_push_X10 0 rfl rfl 0 (by decide) lk_X10_push_7 rfl dX10_push_11 ?_
  refine j_bipush (v := nI 86) EE dX10_push_14 (by decide) ?_
  refine j_iald EE 1 0 rfl rfl (vp_in_nI (n := 86) (by omega) (by decide)) dX10_push_16 ?_
  refine j_topE (congrArg (sA F) (nI_clamp (n := 86) (by omega))) ?_
  refine j_topE (y := nI (F 86)) (sA_n (by omega)) ?_
  refine j_bipush (v := nI 12) EE dX10_push_17 (by decide) ?_
  refine j_icmp_ne EE 25 dX10_push_19 (by decide) (fun c19 => absurd (by rw [h12]) c19) (fun c19 => ?_)
  have n19 : (F 86) = 12 := (nI_eq (a := (F 86)) (b := 12) (by have := hFb 86; omega) (by have := hFb 86; omega)).mp c19
  refine j_bipush (v := (-3)) EE dX10_push_22 (by decide) ?_
  exact j_iret EE FF dX10_push_24 () trivial (by first | rfl | simp_all) rfl

set_option maxHeartbeats 4000000 in
set_option maxRecDepth 100000 in
theorem c_X10_push (h F Q ft B Bt a1 a2 a3 a4 a5 : Nat → Nat) (fr : Nat → Int32) (W M : Nat → Int64) (km le sp ro : Nat) (j : Nat) (hFb : ∀ i, F i < 65536) (hj : j < F 1) (h12 : F 86 < 12) (hkm : km ≤ 6) : Ct l yX10_push wsX10_push (rmD (3)) D [(cI, .int), (cC, .char), (cJ, .long), (cG, .object "PushdownGameSolver$Game")] [.ref ((h 0)), .int (nI j)] [((h 0), .inr (6, [.ref ((h 1)), .ref ((h 2)), .ref ((h 3)), .int (nI km), .ref ((h 4)), .int (nI le), .int (nI sp), .ref ((h 5)), .ref ((h 6)), .int (nI ro), .ref ((h 7)), .ref ((h 8)), .ref ((h 9)), .ref ((h 10)), .ref ((h 11)), .ref ((h 12)), .ref ((h 13))])), ((h 1), .inl (cI, 99, .inl (sA F))), ((h 2), .inl (cI, 99, .inl fr)), ((h 3), .inl (cI, 594, .inl (kA Q))), ((h 4), .inl (cI, 200, .inl (fun zz => nI (ft zz)))), ((h 5), .inl (cI, 12, .inl (fun zz => nI (B zz)))), ((h 6), .inl (cI, 12, .inl (fun zz => nI (Bt zz)))), ((h 7), .inl (cJ, 16, .inr (.inl W))), ((h 8), .inl (cJ, 16, .inr (.inl M))), ((h 9), .inl (cI, 9, .inl (fun zz => nI (a1 zz)))), ((h 10), .inl (cI, 9, .inl (fun zz => nI (a2 zz)))), ((h 11), .inl (cI, 198, .inl (fun zz => nI (a3 zz)))), ((h 12), .inl (cI, 9, .inl (fun zz => nI (a4 zz)))), ((h 13), .inl (cI, 9, .inl (fA a5)))] (S := Unit) (fun _ => True) (fun _ => some (.int (nI (F 86 + 1)))) (fun _ => [((h 0), .inr (6, [.ref ((h 1)), .ref ((h 2)), .ref ((h 3)), .int (nI (min (km + 1) 6)), .ref ((h 4)), .int (nI le), .int (nI sp), .ref ((h 5)), .ref ((h 6)), .int (nI ro), .ref ((h 7)), .ref ((h 8)), .ref ((h 9)), .ref ((h 10)), .ref ((h 11)), .ref ((h 12)), .ref ((h 13))])), ((h 1), .inl (cI, 99, .inl (sA (updN (updN F (87 + F 86) j) 86 (F 86 + 1))))), ((h 2), .inl (cI, 99, .inl fr)), ((h 3), .inl (cI, 594, .inl (kA (kpQ km Q F)))), ((h 4), .inl (cI, 200, .inl (fun zz => nI (ft zz)))), ((h 5), .inl (cI, 12, .inl (fun zz => nI (B zz)))), ((h 6), .inl (cI, 12, .inl (fun zz => nI (Bt zz)))), ((h 7), .inl (cJ, 16, .inr (.inl W))), ((h 8), .inl (cJ, 16, .inr (.inl M))), ((h 9), .inl (cI, 9, .inl (fun zz => nI (a1 zz)))), ((h 10), .inl (cI, 9, .inl (fun zz => nI (a2 zz)))), ((h 11), .inl (cI, 198, .inl (fun zz => nI (a3 zz)))), ((h 12), .inl (cI, 9, .inl (fun zz => nI (a4 zz)))), ((h 13), .inl (cI, 9, .inl (fA a5)))]) := by
  refine Ct.of (lv := [(0, .ref ((h 0))), (1, .int (nI j))]) (by decide) rfl (Nat.le_of_ble_eq_true rfl) rfl ?_
  intro ε hL EE FF
  have hb9 := hFb 1
  refine j_aload_n EE 0 dX10_push_0 rfl rfl ?_
  refine j_iload_n EE 1 dX10_push_1 rfl rfl ?_
  refine j_V2 (n9 := 14) EE (c_X10_isSymbol h F Q ft B Bt a1 a2 a3 a4 a5 fr W M km le sp ro (nI j) hFb) gX10_push_X10_isSymbol ⟨rfl, hd_X10_isSymbol⟩ rfl ⟨rfl, rfl⟩ ⟨by decide, by decide⟩ rfl [0, 1, 2, 3, 4, 5, 6, 7, 8, 9, 10, 11, 12, 13] rfl [] [((h 0), .inr (6, [.ref ((h 1)), .ref ((h 2)), .ref ((h 3)), .int (nI km), .ref ((h 4)), .int (nI le), .int (nI sp), .ref ((h 5)), .ref ((h 6)), .int (nI ro), .ref ((h 7)), .ref ((h 8)), .ref ((h 9)), .ref ((h 10)), .ref ((h 11)), .ref ((h 12)), .ref ((h 13))])), ((h 1), .inl (cI, 99, .inl (sA F))), ((h 2), .inl (cI, 99, .inl fr)), ((h 3), .inl (cI, 594, .inl (kA Q))), ((h 4), .inl (cI, 200, .inl (fun zz => nI (ft zz)))), ((h 5), .inl (cI, 12, .inl (fun zz => nI (B zz)))), ((h 6), .inl (cI, 12, .inl (fun zz => nI (Bt zz)))), ((h 7), .inl (cJ, 16, .inr (.inl W))), ((h 8), .inl (cJ, 16, .inr (.inl M))), ((h 9), .inl (cI, 9, .inl (fun zz => nI (a1 zz)))), ((h 10), .inl (cI, 9, .inl (fun zz => nI (a2 zz)))), ((h 11), .inl (cI, 198, .inl (fun zz => nI (a3 zz)))), ((h 12), .inl (cI, 9, .inl (fun zz => nI (a4 zz)))), ((h 13), .inl (cI, 9, .inl (fA a5)))] (fun _ => rfl) [] [(h 0), (h 1), (h 2), (h 3), (h 4), (h 5), (h 6), (h 7), (h 8), (h 9), (h 10), (h 11), (h 12), (h 13)] rfl rfl rfl rfl rfl (by decide) (by decide) 0 rfl rfl rfl (Nat.le_of_ble_eq_true rfl) dX10_push_2 (fun u_2 h_2 => ?_) rfl
  show J l _ D ε _ _ _ (.int (nI (b2n (inR (nI j) (F 1)))) :: _)
  refine j_if_ne EE 10 dX10_push_5 (by decide) (fun c5 => ?_) (fun c5 => absurd c5 (by rw [inR_nI hj (by omega)]; decide))
  have n5 : (b2n (inR (nI j) (F 1))) ≠ 0 := fun hq => c5 ((nI_eq (a := (b2n (inR (nI j) (F 1)))) (b := 0) (by have := b2n_lt (inR (nI j) (F 1)); omega) (by have := b2n_lt (inR (nI j) (F 1)); omega)).mpr hq)
  refine j_aload_n EE 0 dX10_push_10 rfl rfl ?_
  refine j_get (T := TX10) EE iw_X10_push_X10 0 rfl rfl 0 (by decide) lk_X10_push_7 rfl dX10_push_11 ?_
  refine j_bipush (v := nI 86) EE dX10_push_14 (by decide) ?_
  refine j_iald EE 1 0 rfl rfl (vp_in_nI (n := 86) (by omega) (by decide)) dX10_push_16 ?_
  refine j_topE (congrArg (sA F) (nI_clamp (n := 86) (by omega))) ?_
  refine j_topE (y := nI (F 86)) (sA_n (by omega)) ?_
  refine j_bipush (v := nI 12) EE dX10_push_17 (by decide) ?_
  refine j_icmp_ne EE 25 dX10_push_19 (by decide) (fun c19 => ?_) (fun c19 => absurd ((nI_eq (a := F 86) (b := 12) (by omega) (by omega)).mp c19) (by omega))
  have n19 : (F 86) ≠ 12 := fun hq => c19 ((nI_eq (a := (F 86)) (b := 12) (by have := hFb 86; omega) (by have := hFb 86; omega)).mpr hq)
  refine j_aload_n EE 0 dX10_push_25 rfl rfl ?_
  refine j_V2 (n9 := 14) EE (c_X10_keepsC h F Q ft B Bt a1 a2 a3 a4 a5 fr W M km le sp ro hkm) gX10_push_X10_keeps ⟨rfl, hd_X10_keeps⟩ rfl ⟨rfl, rfl⟩ ⟨by decide, by decide⟩ rfl [0, 1, 2, 3, 4, 5, 6, 7, 8, 9, 10, 11, 12, 13] rfl [] [((h 0), .inr (6, [.ref ((h 1)), .ref ((h 2)), .ref ((h 3)), .int (nI (min (km + 1) 6)), .ref ((h 4)), .int (nI le), .int (nI sp), .ref ((h 5)), .ref ((h 6)), .int (nI ro), .ref ((h 7)), .ref ((h 8)), .ref ((h 9)), .ref ((h 10)), .ref ((h 11)), .ref ((h 12)), .ref ((h 13))])), ((h 1), .inl (cI, 99, .inl (sA F))), ((h 2), .inl (cI, 99, .inl fr)), ((h 3), .inl (cI, 594, .inl (kA (kpQ km Q F)))), ((h 4), .inl (cI, 200, .inl (fun zz => nI (ft zz)))), ((h 5), .inl (cI, 12, .inl (fun zz => nI (B zz)))), ((h 6), .inl (cI, 12, .inl (fun zz => nI (Bt zz)))), ((h 7), .inl (cJ, 16, .inr (.inl W))), ((h 8), .inl (cJ, 16, .inr (.inl M))), ((h 9), .inl (cI, 9, .inl (fun zz => nI (a1 zz)))), ((h 10), .inl (cI, 9, .inl (fun zz => nI (a2 zz)))), ((h 11), .inl (cI, 198, .inl (fun zz => nI (a3 zz)))), ((h 12), .inl (cI, 9, .inl (fun zz => nI (a4 zz)))), ((h 13), .inl (cI, 9, .inl (fA a5)))] (fun _ => rfl) [] [(h 0), (h 1), (h 2), (h 3), (h 4), (h 5), (h 6), (h 7), (h 8), (h 9), (h 10), (h 11), (h 12), (h 13)] rfl rfl rfl rfl rfl (by decide) (by decide) 0 rfl rfl rfl (Nat.le_of_ble_eq_true rfl) dX10_push_26 (fun u_26 h_26 => ?_) rfl
  refine j_aload_n EE 0 dX10_push_29 rfl rfl ?_
  refine j_get (T := TX10) EE iw_X10_push_X10 0 rfl rfl 0 (by decide) lk_X10_push_7 rfl dX10_push_30 ?_
  refine j_bipush (v := nI 87) EE dX10_push_33 (by decide) ?_
  refine j_aload_n EE 0 dX10_push_35 rfl rfl ?_
  refine j_get (T := TX10) EE iw_X10_push_X10 0 rfl rfl 0 (by decide) lk_X10_push_7 rfl dX10_push_36 ?_
  refine j_bipush (v := nI 86) EE dX10_push_39 (by decide) ?_
  refine j_iald EE 1 0 rfl rfl (vp_in_nI (n := 86) (by omega) (by decide)) dX10_push_41 ?_
  refine j_topE (congrArg (sA F) (nI_clamp (n := 86) (by omega))) ?_
  refine j_topE (y := nI (F 86)) (sA_n (by omega)) ?_
  refine j_iadd EE dX10_push_42 ?_
  refine j_topE (nI_add 87 (F 86)) ?_
  refine j_iload_n EE 1 dX10_push_43 rfl rfl ?_
  refine j_iast (ws' := [((h 0), .inr (6, [.ref ((h 1)), .ref ((h 2)), .ref ((h 3)), .int (nI (min (km + 1) 6)), .ref ((h 4)), .int (nI le), .int (nI sp), .ref ((h 5)), .ref ((h 6)), .int (nI ro), .ref ((h 7)), .ref ((h 8)), .ref ((h 9)), .ref ((h 10)), .ref ((h 11)), .ref ((h 12)), .ref ((h 13))])), ((h 1), .inl (cI, 99, .inl (sA (updN F (87 + (F 86)) j)))), ((h 2), .inl (cI, 99, .inl fr)), ((h 3), .inl (cI, 594, .inl (kA (kpQ km Q F)))), ((h 4), .inl (cI, 200, .inl (fun zz => nI (ft zz)))), ((h 5), .inl (cI, 12, .inl (fun zz => nI (B zz)))), ((h 6), .inl (cI, 12, .inl (fun zz => nI (Bt zz)))), ((h 7), .inl (cJ, 16, .inr (.inl W))), ((h 8), .inl (cJ, 16, .inr (.inl M))), ((h 9), .inl (cI, 9, .inl (fun zz => nI (a1 zz)))), ((h 10), .inl (cI, 9, .inl (fun zz => nI (a2 zz)))), ((h 11), .inl (cI, 198, .inl (fun zz => nI (a3 zz)))), ((h 12), .inl (cI, 9, .inl (fun zz => nI (a4 zz)))), ((h 13), .inl (cI, 9, .inl (fA a5)))]) EE 1 0 rfl rfl (vp_in_nI (n := 87 + (F 86)) (by have := hFb 86; omega) (by decide)) (by rw [nI_clamp (by have := hFb 86; omega), upd_sAn (by have := hFb 86; omega)]; rfl) dX10_push_44 ?_
  refine j_aload_n EE 0 dX10_push_45 rfl rfl ?_
  refine j_get (T := TX10) EE iw_X10_push_X10 0 rfl rfl 0 (by decide) lk_X10_push_7 rfl dX10_push_46 ?_
  refine j_bipush (v := nI 86) EE dX10_push_49 (by decide) ?_
  refine j_dup2 EE rfl rfl dX10_push_51 ?_
  refine j_iald EE 1 0 rfl rfl (vp_in_nI (n := 86) (by omega) (by decide)) dX10_push_52 ?_
  refine j_topE (congrArg (sA (updN F (87 + (F 86)) j)) (nI_clamp (n := 86) (by omega))) ?_
  refine j_topE (y := nI (F 86)) (by rw [sA_n (by omega), updN_n _ _ _ (by omega)]) ?_
  refine j_iconst (v := nI 1) EE dX10_push_53 (by decide) ?_
  refine j_iadd EE dX10_push_54 ?_
  refine j_topE (nI_add (F 86) 1) ?_
  refine j_iast (ws' := [((h 0), .inr (6, [.ref ((h 1)), .ref ((h 2)), .ref ((h 3)), .int (nI (min (km + 1) 6)), .ref ((h 4)), .int (nI le), .int (nI sp), .ref ((h 5)), .ref ((h 6)), .int (nI ro), .ref ((h 7)), .ref ((h 8)), .ref ((h 9)), .ref ((h 10)), .ref ((h 11)), .ref ((h 12)), .ref ((h 13))])), ((h 1), .inl (cI, 99, .inl (sA (updN (updN F (87 + (F 86)) j) 86 ((F 86) + 1))))), ((h 2), .inl (cI, 99, .inl fr)), ((h 3), .inl (cI, 594, .inl (kA (kpQ km Q F)))), ((h 4), .inl (cI, 200, .inl (fun zz => nI (ft zz)))), ((h 5), .inl (cI, 12, .inl (fun zz => nI (B zz)))), ((h 6), .inl (cI, 12, .inl (fun zz => nI (Bt zz)))), ((h 7), .inl (cJ, 16, .inr (.inl W))), ((h 8), .inl (cJ, 16, .inr (.inl M))), ((h 9), .inl (cI, 9, .inl (fun zz => nI (a1 zz)))), ((h 10), .inl (cI, 9, .inl (fun zz => nI (a2 zz)))), ((h 11), .inl (cI, 198, .inl (fun zz => nI (a3 zz)))), ((h 12), .inl (cI, 9, .inl (fun zz => nI (a4 zz)))), ((h 13), .inl (cI, 9, .inl (fA a5)))]) EE 1 0 rfl rfl (vp_in_nI (n := 86) (by omega) (by decide)) (by rw [nI_clamp (by omega), upd_sAn (by omega)]; rfl) dX10_push_55 ?_
  refine j_aload_n EE 0 dX10_push_56 rfl rfl ?_
  refine j_get (T := TX10) EE iw_X10_push_X10 0 rfl rfl 0 (by decide) lk_X10_push_7 rfl dX10_push_57 ?_
  refine j_bipush (v := nI 86) EE dX10_push_60 (by decide) ?_
  refine j_iald EE 1 0 rfl rfl (vp_in_nI (n := 86) (by omega) (by decide)) dX10_push_62 ?_
  refine j_topE (congrArg (sA (updN (updN F (87 + (F 86)) j) 86 ((F 86) + 1))) (nI_clamp (n := 86) (by omega))) ?_
  refine j_topE (y := nI (F 86 + 1)) (by rw [sA_n (by omega), updN_s]) ?_
  exact j_iret EE FF dX10_push_63 () trivial (by first | rfl | simp_all) rfl

theorem iw_X10_sets_X10 : ∀ w ∈ wsX100, w ∈ wsX10_sets := fun _ h => List.mem_cons_of_mem _ (List.mem_append_right _ h)
theorem lk_X10_sets_7 : Cond.fieldLink RX10 7 (TX10 0).1 (TX10 0).2.1 (TX10 0).2.2.1 ∈ wsX10_sets := List.mem_of_getElem? (i := 1) rfl
set_option maxHeartbeats 4000000 in
set_option maxRecDepth 100000 in
theorem c_X10_sets (h F Q ft B Bt a1 a2 a3 a4 a5 : Nat → Nat) (fr : Nat → Int32) (W M : Nat → Int64) (km le sp ro : Nat) (w j b : Nat) (hFb : ∀ i, F i < 65536) (hw : w = 2 ∨ w = 3) (hFw : F w < 16) (hj : j < 4) (hb : b < 2) (hkm : km ≤ 6) : Ct l yX10_sets wsX10_sets (rmD (1)) D [(cI, .int), (cC, .char), (cJ, .long), (cG, .object "PushdownGameSolver$Game")] [.ref ((h 0)), .int (nI w), .int (nI j), .int (nI b)] [((h 0), .inr (6, [.ref ((h 1)), .ref ((h 2)), .ref ((h 3)), .int (nI km), .ref ((h 4)), .int (nI le), .int (nI sp), .ref ((h 5)), .ref ((h 6)), .int (nI ro), .ref ((h 7)), .ref ((h 8)), .ref ((h 9)), .ref ((h 10)), .ref ((h 11)), .ref ((h 12)), .ref ((h 13))])), ((h 1), .inl (cI, 99, .inl (sA F))), ((h 2), .inl (cI, 99, .inl fr)), ((h 3), .inl (cI, 594, .inl (kA Q))), ((h 4), .inl (cI, 200, .inl (fun zz => nI (ft zz)))), ((h 5), .inl (cI, 12, .inl (fun zz => nI (B zz)))), ((h 6), .inl (cI, 12, .inl (fun zz => nI (Bt zz)))), ((h 7), .inl (cJ, 16, .inr (.inl W))), ((h 8), .inl (cJ, 16, .inr (.inl M))), ((h 9), .inl (cI, 9, .inl (fun zz => nI (a1 zz)))), ((h 10), .inl (cI, 9, .inl (fun zz => nI (a2 zz)))), ((h 11), .inl (cI, 198, .inl (fun zz => nI (a3 zz)))), ((h 12), .inl (cI, 9, .inl (fun zz => nI (a4 zz)))), ((h 13), .inl (cI, 9, .inl (fA a5)))] (S := Unit) (fun _ => True) (fun _ => some (.int (nI (bt (F w) j)))) (fun _ => [((h 0), .inr (6, [.ref ((h 1)), .ref ((h 2)), .ref ((h 3)), .int (nI (min (km + 1) 6)), .ref ((h 4)), .int (nI le), .int (nI sp), .ref ((h 5)), .ref ((h 6)), .int (nI ro), .ref ((h 7)), .ref ((h 8)), .ref ((h 9)), .ref ((h 10)), .ref ((h 11)), .ref ((h 12)), .ref ((h 13))])), ((h 1), .inl (cI, 99, .inl (sA (updN F w (wbit (F w) j b))))), ((h 2), .inl (cI, 99, .inl fr)), ((h 3), .inl (cI, 594, .inl (kA (kpQ km Q F)))), ((h 4), .inl (cI, 200, .inl (fun zz => nI (ft zz)))), ((h 5), .inl (cI, 12, .inl (fun zz => nI (B zz)))), ((h 6), .inl (cI, 12, .inl (fun zz => nI (Bt zz)))), ((h 7), .inl (cJ, 16, .inr (.inl W))), ((h 8), .inl (cJ, 16, .inr (.inl M))), ((h 9), .inl (cI, 9, .inl (fun zz => nI (a1 zz)))), ((h 10), .inl (cI, 9, .inl (fun zz => nI (a2 zz)))), ((h 11), .inl (cI, 198, .inl (fun zz => nI (a3 zz)))), ((h 12), .inl (cI, 9, .inl (fun zz => nI (a4 zz)))), ((h 13), .inl (cI, 9, .inl (fA a5)))]) := by
  refine Ct.of (lv := [(0, .ref ((h 0))), (1, .int (nI w)), (2, .int (nI j)), (3, .int (nI b))]) (by decide) rfl (Nat.le_of_ble_eq_true rfl) rfl ?_
  intro ε hL EE FF
  refine j_aload_n EE 0 dX10_sets_0 rfl rfl ?_
  refine j_V2 (n9 := 14) EE (c_X10_keepsC h F Q ft B Bt a1 a2 a3 a4 a5 fr W M km le sp ro hkm) gX10_sets_X10_keeps ⟨rfl, hd_X10_keeps⟩ rfl ⟨rfl, rfl⟩ ⟨by decide, by decide⟩ rfl [0, 1, 2, 3, 4, 5, 6, 7, 8, 9, 10, 11, 12, 13] rfl [] [((h 0), .inr (6, [.ref ((h 1)), .ref ((h 2)), .ref ((h 3)), .int (nI (min (km + 1) 6)), .ref ((h 4)), .int (nI le), .int (nI sp), .ref ((h 5)), .ref ((h 6)), .int (nI ro), .ref ((h 7)), .ref ((h 8)), .ref ((h 9)), .ref ((h 10)), .ref ((h 11)), .ref ((h 12)), .ref ((h 13))])), ((h 1), .inl (cI, 99, .inl (sA F))), ((h 2), .inl (cI, 99, .inl fr)), ((h 3), .inl (cI, 594, .inl (kA (kpQ km Q F)))), ((h 4), .inl (cI, 200, .inl (fun zz => nI (ft zz)))), ((h 5), .inl (cI, 12, .inl (fun zz => nI (B zz)))), ((h 6), .inl (cI, 12, .inl (fun zz => nI (Bt zz)))), ((h 7), .inl (cJ, 16, .inr (.inl W))), ((h 8), .inl (cJ, 16, .inr (.inl M))), ((h 9), .inl (cI, 9, .inl (fun zz => nI (a1 zz)))), ((h 10), .inl (cI, 9, .inl (fun zz => nI (a2 zz)))), ((h 11), .inl (cI, 198, .inl (fun zz => nI (a3 zz)))), ((h 12), .inl (cI, 9, .inl (fun zz => nI (a4 zz)))), ((h 13), .inl (cI, 9, .inl (fA a5)))] (fun _ => rfl) [] [(h 0), (h 1), (h 2), (h 3), (h 4), (h 5), (h 6), (h 7), (h 8), (h 9), (h 10), (h 11), (h 12), (h 13)] rfl rfl rfl rfl rfl (by decide) (by decide) 0 rfl rfl rfl (Nat.le_of_ble_eq_true rfl) dX10_sets_1 (fun u_1 h_1 => ?_) rfl
  refine j_aload_n EE 0 dX10_sets_4 rfl rfl ?_
  refine j_get (T := TX10) EE iw_X10_sets_X10 0 rfl rfl 0 (by decide) lk_X10_sets_7 rfl dX10_sets_5 ?_
  refine j_iload_n EE 1 dX10_sets_8 rfl rfl ?_
  refine j_iald EE 1 0 rfl rfl (vp_in_nI (n := w) (by omega) (by decide)) dX10_sets_9 ?_
  refine j_topE (congrArg (sA F) (nI_clamp (n := w) (by omega))) ?_
  refine j_topE (y := nI (F w)) (sA_n (by omega)) ?_
  refine j_iload_n EE 2 dX10_sets_10 rfl rfl ?_
  refine j_ishr EE dX10_sets_11 ?_
  refine j_iconst (v := nI 1) EE dX10_sets_12 (by decide) ?_
  refine j_iand EE dX10_sets_13 ?_
  refine j_topE (y := nI (bt (F w) j)) (b_bit (by omega) (by omega)) ?_
  refine j_istore EE [(4, _), (0, _), (1, _), (2, _), (3, _)] dX10_sets_14 (Nat.lt_of_lt_of_eq (by decide) hL.symm) rfl ?_
  refine j_aload_n EE 1 dX10_sets_16 rfl rfl ?_
  refine j_get (T := TX10) EE iw_X10_sets_X10 0 rfl rfl 0 (by decide) lk_X10_sets_7 rfl dX10_sets_17 ?_
  refine j_iload_n EE 2 dX10_sets_20 rfl rfl ?_
  refine j_aload_n EE 1 dX10_sets_21 rfl rfl ?_
  refine j_get (T := TX10) EE iw_X10_sets_X10 0 rfl rfl 0 (by decide) lk_X10_sets_7 rfl dX10_sets_22 ?_
  refine j_iload_n EE 2 dX10_sets_25 rfl rfl ?_
  refine j_iald EE 1 0 rfl rfl (vp_in_nI (n := w) (by omega) (by decide)) dX10_sets_26 ?_
  refine j_topE (congrArg (sA F) (nI_clamp (n := w) (by omega))) ?_
  refine j_topE (y := nI (F w)) (sA_n (by omega)) ?_
  refine j_iconst (v := nI 1) EE dX10_sets_27 (by decide) ?_
  refine j_iload_n EE 3 dX10_sets_28 rfl rfl ?_
  refine j_ishl EE dX10_sets_29 ?_
  refine j_iconst (v := (-1)) EE dX10_sets_30 (by decide) ?_
  refine j_ixor EE dX10_sets_31 ?_
  refine j_iand EE dX10_sets_32 ?_
  refine j_iload_n EE 4 dX10_sets_33 rfl rfl ?_
  refine j_iload_n EE 3 dX10_sets_34 rfl rfl ?_
  refine j_ishl EE dX10_sets_35 ?_
  refine j_ior EE dX10_sets_36 ?_
  refine j_topE (y := nI (wbit (F w) j b)) (b_sets (F w) hFw j hj b hb) ?_
  refine j_iast (ws' := [((h 0), .inr (6, [.ref ((h 1)), .ref ((h 2)), .ref ((h 3)), .int (nI (min (km + 1) 6)), .ref ((h 4)), .int (nI le), .int (nI sp), .ref ((h 5)), .ref ((h 6)), .int (nI ro), .ref ((h 7)), .ref ((h 8)), .ref ((h 9)), .ref ((h 10)), .ref ((h 11)), .ref ((h 12)), .ref ((h 13))])), ((h 1), .inl (cI, 99, .inl (sA (updN F w (wbit (F w) j b))))), ((h 2), .inl (cI, 99, .inl fr)), ((h 3), .inl (cI, 594, .inl (kA (kpQ km Q F)))), ((h 4), .inl (cI, 200, .inl (fun zz => nI (ft zz)))), ((h 5), .inl (cI, 12, .inl (fun zz => nI (B zz)))), ((h 6), .inl (cI, 12, .inl (fun zz => nI (Bt zz)))), ((h 7), .inl (cJ, 16, .inr (.inl W))), ((h 8), .inl (cJ, 16, .inr (.inl M))), ((h 9), .inl (cI, 9, .inl (fun zz => nI (a1 zz)))), ((h 10), .inl (cI, 9, .inl (fun zz => nI (a2 zz)))), ((h 11), .inl (cI, 198, .inl (fun zz => nI (a3 zz)))), ((h 12), .inl (cI, 9, .inl (fun zz => nI (a4 zz)))), ((h 13), .inl (cI, 9, .inl (fA a5)))]) EE 1 0 rfl rfl (vp_in_nI (n := w) (by omega) (by decide)) (by rw [nI_clamp (by omega), upd_sAn (by omega)]; rfl) dX10_sets_37 ?_
  refine j_iload EE 0 dX10_sets_38 rfl ?_
  exact j_iret EE FF dX10_sets_40 () trivial (by first | rfl | simp_all) rfl

set_option maxHeartbeats 4000000 in
set_option maxRecDepth 100000 in
theorem c_X10_setOwnerE (h F Q ft B Bt a1 a2 a3 a4 a5 : Nat → Nat) (fr : Nat → Int32) (W M : Nat → Int64) (km le sp ro : Nat) (x y : Int32) (hFb : ∀ i, F i < 65536) (hi : inR x (F 0) = false ∨ inR y 2 = false) : Ct l yX10_setOwner wsX10_setOwner (rmD (3)) D [(cI, .int), (cC, .char), (cJ, .long), (cG, .object "PushdownGameSolver$Game")] [.ref ((h 0)), .int (x), .int (y)] [((h 0), .inr (6, [.ref ((h 1)), .ref ((h 2)), .ref ((h 3)), .int (nI km), .ref ((h 4)), .int (nI le), .int (nI sp), .ref ((h 5)), .ref ((h 6)), .int (nI ro), .ref ((h 7)), .ref ((h 8)), .ref ((h 9)), .ref ((h 10)), .ref ((h 11)), .ref ((h 12)), .ref ((h 13))])), ((h 1), .inl (cI, 99, .inl (sA F))), ((h 2), .inl (cI, 99, .inl fr)), ((h 3), .inl (cI, 594, .inl (kA Q))), ((h 4), .inl (cI, 200, .inl (fun zz => nI (ft zz)))), ((h 5), .inl (cI, 12, .inl (fun zz => nI (B zz)))), ((h 6), .inl (cI, 12, .inl (fun zz => nI (Bt zz)))), ((h 7), .inl (cJ, 16, .inr (.inl W))), ((h 8), .inl (cJ, 16, .inr (.inl M))), ((h 9), .inl (cI, 9, .inl (fun zz => nI (a1 zz)))), ((h 10), .inl (cI, 9, .inl (fun zz => nI (a2 zz)))), ((h 11), .inl (cI, 198, .inl (fun zz => nI (a3 zz)))), ((h 12), .inl (cI, 9, .inl (fun zz => nI (a4 zz)))), ((h 13), .inl (cI, 9, .inl (fA a5)))] (S := Unit) (fun _ => True) (fun _ => some (.int ((-1)))) (fun _ => [((h 0), .inr (6, [.ref ((h 1)), .ref ((h 2)), .ref ((h 3)), .int (nI km), .ref ((h 4)), .int (nI le), .int (nI sp), .ref ((h 5)), .ref ((h 6)), .int (nI ro), .ref ((h 7)), .ref ((h 8)), .ref ((h 9)), .ref ((h 10)), .ref ((h 11)), .ref ((h 12)), .ref ((h 13))])), ((h 1), .inl (cI, 99, .inl (sA F))), ((h 2), .inl (cI, 99, .inl fr)), ((h 3), .inl (cI, 594, .inl (kA Q))), ((h 4), .inl (cI, 200, .inl (fun zz => nI (ft zz)))), ((h 5), .inl (cI, 12, .inl (fun zz => nI (B zz)))), ((h 6), .inl (cI, 12, .inl (fun zz => nI (Bt zz)))), ((h 7), .inl (cJ, 16, .inr (.inl W))), ((h 8), .inl (cJ, 16, .inr (.inl M))), ((h 9), .inl (cI, 9, .inl (fun zz => nI (a1 zz)))), ((h 10), .inl (cI, 9, .inl (fun zz => nI (a2 zz)))), ((h 11), .inl (cI, 198, .inl (fun zz => nI (a3 zz)))), ((h 12), .inl (cI, 9, .inl (fun zz => nI (a4 zz)))), ((h 13), .inl (cI, 9, .inl (fA a5)))]) := by
  refine Ct.of (lv := [(0, .ref ((h 0))), (1, .int (x)), (2, .int (y))]) (by decide) rfl (Nat.le_of_ble_eq_true rfl) rfl ?_
  intro ε hL EE FF
  refine j_aload_n EE 0 dX10_setOwner_0 rfl rfl ?_
  refine j_iload_n EE 1 dX10_setOwner_1 rfl rfl ?_
  refine j_V2 (n9 := 14) EE (c_X10_isState h F Q ft B Bt a1 a2 a3 a4 a5 fr W M km le sp ro x hFb) gX10_setOwner_X10_isState ⟨rfl, hd_X10_isState⟩ rfl ⟨rfl, rfl⟩ ⟨by decide, by decide⟩ rfl [0, 1, 2, 3, 4, 5, 6, 7, 8, 9, 10, 11, 12, 13] rfl [] [((h 0), .inr (6, [.ref ((h 1)), .ref ((h 2)), .ref ((h 3)), .int (nI km), .ref ((h 4)), .int (nI le), .int (nI sp), .ref ((h 5)), .ref ((h 6)), .int (nI ro), .ref ((h 7)), .ref ((h 8)), .ref ((h 9)), .ref ((h 10)), .ref ((h 11)), .ref ((h 12)), .ref ((h 13))])), ((h 1), .inl (cI, 99, .inl (sA F))), ((h 2), .inl (cI, 99, .inl fr)), ((h 3), .inl (cI, 594, .inl (kA Q))), ((h 4), .inl (cI, 200, .inl (fun zz => nI (ft zz)))), ((h 5), .inl (cI, 12, .inl (fun zz => nI (B zz)))), ((h 6), .inl (cI, 12, .inl (fun zz => nI (Bt zz)))), ((h 7), .inl (cJ, 16, .inr (.inl W))), ((h 8), .inl (cJ, 16, .inr (.inl M))), ((h 9), .inl (cI, 9, .inl (fun zz => nI (a1 zz)))), ((h 10), .inl (cI, 9, .inl (fun zz => nI (a2 zz)))), ((h 11), .inl (cI, 198, .inl (fun zz => nI (a3 zz)))), ((h 12), .inl (cI, 9, .inl (fun zz => nI (a4 zz)))), ((h 13), .inl (cI, 9, .inl (fA a5)))] (fun _ => rfl) [] [(h 0), (h 1), (h 2), (h 3), (h 4), (h 5), (h 6), (h 7), (h 8), (h 9), (h 10), (h 11), (h 12), (h 13)] rfl rfl rfl rfl rfl (by decide) (by decide) 0 rfl rfl rfl (Nat.le_of_ble_eq_true rfl) dX10_setOwner_2 (fun u_2 h_2 => ?_) rfl
  show J l _ D ε _ _ _ (.int (nI (b2n (inR x (F 0)))) :: _)
  refine j_if_eq EE 28 dX10_setOwner_5 (by decide) (fun c5 => ?_) (fun c5 => ?_)
  · skip
    have n5 : (b2n (inR x (F 0))) = 0 := (nI_eq (a := (b2n (inR x (F 0)))) (b := 0) (by have := b2n_lt (inR x (F 0)); omega) (by have := b2n_lt (inR x (F 0)); omega)).mp c5
    refine j_iconst (v := (-1)) EE dX10_setOwner_28 (by decide) ?_
    exact j_iret EE FF dX10_setOwner_29 () trivial (by first | rfl | simp_all) rfl
  · skip
    have n5 : (b2n (inR x (F 0))) ≠ 0 := fun hq => c5 ((nI_eq (a := (b2n (inR x (F 0)))) (b := 0) (by have := b2n_lt (inR x (F 0)); omega) (by have := b2n_lt (inR x (F 0)); omega)).mpr hq)
    refine j_iload_n EE 2 dX10_setOwner_8 rfl rfl ?_
    refine j_i2l EE dX10_setOwner_9 ?_
    refine j_lconst (v := lN 0) EE dX10_setOwner_10 (by decide) ?_
    refine j_lconst (v := lN 1) EE dX10_setOwner_11 (by decide) ?_
    refine j_S2 (n9 := 14) EE (c_X10_in ((y).toInt64) (lN 0) (lN 1)) gX10_setOwner_X10_in hd_X10_in rfl ⟨rfl, rfl⟩ ⟨by decide, by decide⟩ rfl [] rfl [0, 1, 2, 3, 4, 5, 6, 7, 8, 9, 10, 11, 12, 13] [((h 0), .inr (6, [.ref ((h 1)), .ref ((h 2)), .ref ((h 3)), .int (nI km), .ref ((h 4)), .int (nI le), .int (nI sp), .ref ((h 5)), .ref ((h 6)), .int (nI ro), .ref ((h 7)), .ref ((h 8)), .ref ((h 9)), .ref ((h 10)), .ref ((h 11)), .ref ((h 12)), .ref ((h 13))])), ((h 1), .inl (cI, 99, .inl (sA F))), ((h 2), .inl (cI, 99, .inl fr)), ((h 3), .inl (cI, 594, .inl (kA Q))), ((h 4), .inl (cI, 200, .inl (fun zz => nI (ft zz)))), ((h 5), .inl (cI, 12, .inl (fun zz => nI (B zz)))), ((h 6), .inl (cI, 12, .inl (fun zz => nI (Bt zz)))), ((h 7), .inl (cJ, 16, .inr (.inl W))), ((h 8), .inl (cJ, 16, .inr (.inl M))), ((h 9), .inl (cI, 9, .inl (fun zz => nI (a1 zz)))), ((h 10), .inl (cI, 9, .inl (fun zz => nI (a2 zz)))), ((h 11), .inl (cI, 198, .inl (fun zz => nI (a3 zz)))), ((h 12), .inl (cI, 9, .inl (fun zz => nI (a4 zz)))), ((h 13), .inl (cI, 9, .inl (fA a5)))] (fun _ => rfl) [((h 0), .inr (6, [.ref ((h 1)), .ref ((h 2)), .ref ((h 3)), .int (nI km), .ref ((h 4)), .int (nI le), .int (nI sp), .ref ((h 5)), .ref ((h 6)), .int (nI ro), .ref ((h 7)), .ref ((h 8)), .ref ((h 9)), .ref ((h 10)), .ref ((h 11)), .ref ((h 12)), .ref ((h 13))])), ((h 1), .inl (cI, 99, .inl (sA F))), ((h 2), .inl (cI, 99, .inl fr)), ((h 3), .inl (cI, 594, .inl (kA Q))), ((h 4), .inl (cI, 200, .inl (fun zz => nI (ft zz)))), ((h 5), .inl (cI, 12, .inl (fun zz => nI (B zz)))), ((h 6), .inl (cI, 12, .inl (fun zz => nI (Bt zz)))), ((h 7), .inl (cJ, 16, .inr (.inl W))), ((h 8), .inl (cJ, 16, .inr (.inl M))), ((h 9), .inl (cI, 9, .inl (fun zz => nI (a1 zz)))), ((h 10), .inl (cI, 9, .inl (fun zz => nI (a2 zz)))), ((h 11), .inl (cI, 198, .inl (fun zz => nI (a3 zz)))), ((h 12), .inl (cI, 9, .inl (fun zz => nI (a4 zz)))), ((h 13), .inl (cI, 9, .inl (fA a5)))] [(h 0), (h 1), (h 2), (h 3), (h 4), (h 5), (h 6), (h 7), (h 8), (h 9), (h 10), (h 11), (h 12), (h 13)] rfl rfl rfl rfl rfl (by decide) (by decide) rfl (Nat.le_of_ble_eq_true rfl) dX10_setOwner_12 (fun u_12 h_12 => ?_) rfl
    show J l _ D ε _ _ _ (.int (if lN 0 ≤ (y).toInt64 ∧ (y).toInt64 ≤ lN 1 then nI 1 else nI 0) :: _)
    refine j_topE (y := nI (b2n (inR y 2))) (in_01 y) ?_
    show J l _ D ε _ _ _ (.int (nI (b2n (inR y 2))) :: _)
    refine j_if_eq EE 28 dX10_setOwner_15 (by decide) (fun c15 => ?_) (fun c15 => absurd (by rw [hi.resolve_left (by rw [b2n_ne0 n5]; decide)]; rfl) c15)
    have n15 : (b2n (inR y 2)) = 0 := (nI_eq (a := (b2n (inR y 2))) (b := 0) (by have := b2n_lt (inR y 2); omega) (by have := b2n_lt (inR y 2); omega)).mp c15
    refine j_iconst (v := (-1)) EE dX10_setOwner_28 (by decide) ?_
    exact j_iret EE FF dX10_setOwner_29 () trivial (by first | rfl | simp_all) rfl

theorem hd_X10_sets : yX10_sets.cls ≠ "java/lang/invoke/MethodHandle" ∧ yX10_sets.cls ≠ "java/lang/invoke/VarHandle" ∧ (parseMethodDescriptor yX10_sets.desc).map (fun d => d.parameters.length) = some 3 := by decide +kernel
set_option maxHeartbeats 4000000 in
set_option maxRecDepth 100000 in
theorem c_X10_setOwner (h F Q ft B Bt a1 a2 a3 a4 a5 : Nat → Nat) (fr : Nat → Int32) (W M : Nat → Int64) (km le sp ro : Nat) (j b : Nat) (hFb : ∀ i, F i < 65536) (hj : j < F 0) (h4 : F 0 ≤ 4) (hFw : F 2 < 16) (hb : b < 2) (hkm : km ≤ 6) : Ct l yX10_setOwner wsX10_setOwner (rmD (3)) D [(cI, .int), (cC, .char), (cJ, .long), (cG, .object "PushdownGameSolver$Game")] [.ref ((h 0)), .int (nI j), .int (nI b)] [((h 0), .inr (6, [.ref ((h 1)), .ref ((h 2)), .ref ((h 3)), .int (nI km), .ref ((h 4)), .int (nI le), .int (nI sp), .ref ((h 5)), .ref ((h 6)), .int (nI ro), .ref ((h 7)), .ref ((h 8)), .ref ((h 9)), .ref ((h 10)), .ref ((h 11)), .ref ((h 12)), .ref ((h 13))])), ((h 1), .inl (cI, 99, .inl (sA F))), ((h 2), .inl (cI, 99, .inl fr)), ((h 3), .inl (cI, 594, .inl (kA Q))), ((h 4), .inl (cI, 200, .inl (fun zz => nI (ft zz)))), ((h 5), .inl (cI, 12, .inl (fun zz => nI (B zz)))), ((h 6), .inl (cI, 12, .inl (fun zz => nI (Bt zz)))), ((h 7), .inl (cJ, 16, .inr (.inl W))), ((h 8), .inl (cJ, 16, .inr (.inl M))), ((h 9), .inl (cI, 9, .inl (fun zz => nI (a1 zz)))), ((h 10), .inl (cI, 9, .inl (fun zz => nI (a2 zz)))), ((h 11), .inl (cI, 198, .inl (fun zz => nI (a3 zz)))), ((h 12), .inl (cI, 9, .inl (fun zz => nI (a4 zz)))), ((h 13), .inl (cI, 9, .inl (fA a5)))] (S := Unit) (fun _ => True) (fun _ => some (.int (nI (bt (F 2) j)))) (fun _ => [((h 0), .inr (6, [.ref ((h 1)), .ref ((h 2)), .ref ((h 3)), .int (nI (min (km + 1) 6)), .ref ((h 4)), .int (nI le), .int (nI sp), .ref ((h 5)), .ref ((h 6)), .int (nI ro), .ref ((h 7)), .ref ((h 8)), .ref ((h 9)), .ref ((h 10)), .ref ((h 11)), .ref ((h 12)), .ref ((h 13))])), ((h 1), .inl (cI, 99, .inl (sA (updN F 2 (wbit (F 2) j b))))), ((h 2), .inl (cI, 99, .inl fr)), ((h 3), .inl (cI, 594, .inl (kA (kpQ km Q F)))), ((h 4), .inl (cI, 200, .inl (fun zz => nI (ft zz)))), ((h 5), .inl (cI, 12, .inl (fun zz => nI (B zz)))), ((h 6), .inl (cI, 12, .inl (fun zz => nI (Bt zz)))), ((h 7), .inl (cJ, 16, .inr (.inl W))), ((h 8), .inl (cJ, 16, .inr (.inl M))), ((h 9), .inl (cI, 9, .inl (fun zz => nI (a1 zz)))), ((h 10), .inl (cI, 9, .inl (fun zz => nI (a2 zz)))), ((h 11), .inl (cI, 198, .inl (fun zz => nI (a3 zz)))), ((h 12), .inl (cI, 9, .inl (fun zz => nI (a4 zz)))), ((h 13), .inl (cI, 9, .inl (fA a5)))]) := by
  refine Ct.of (lv := [(0, .ref ((h 0))), (1, .int (nI j)), (2, .int (nI b))]) (by decide) rfl (Nat.le_of_ble_eq_true rfl) rfl ?_
  intro ε hL EE FF
  refine j_aload_n EE 0 dX10_setOwner_0 rfl rfl ?_
  refine j_iload_n EE 1 dX10_setOwner_1 rfl rfl ?_
  refine j_V2 (n9 := 14) EE (c_X10_isState h F Q ft B Bt a1 a2 a3 a4 a5 fr W M km le sp ro (nI j) hFb) gX10_setOwner_X10_isState ⟨rfl, hd_X10_isState⟩ rfl ⟨rfl, rfl⟩ ⟨by decide, by decide⟩ rfl [0, 1, 2, 3, 4, 5, 6, 7, 8, 9, 10, 11, 12, 13] rfl [] [((h 0), .inr (6, [.ref ((h 1)), .ref ((h 2)), .ref ((h 3)), .int (nI km), .ref ((h 4)), .int (nI le), .int (nI sp), .ref ((h 5)), .ref ((h 6)), .int (nI ro), .ref ((h 7)), .ref ((h 8)), .ref ((h 9)), .ref ((h 10)), .ref ((h 11)), .ref ((h 12)), .ref ((h 13))])), ((h 1), .inl (cI, 99, .inl (sA F))), ((h 2), .inl (cI, 99, .inl fr)), ((h 3), .inl (cI, 594, .inl (kA Q))), ((h 4), .inl (cI, 200, .inl (fun zz => nI (ft zz)))), ((h 5), .inl (cI, 12, .inl (fun zz => nI (B zz)))), ((h 6), .inl (cI, 12, .inl (fun zz => nI (Bt zz)))), ((h 7), .inl (cJ, 16, .inr (.inl W))), ((h 8), .inl (cJ, 16, .inr (.inl M))), ((h 9), .inl (cI, 9, .inl (fun zz => nI (a1 zz)))), ((h 10), .inl (cI, 9, .inl (fun zz => nI (a2 zz)))), ((h 11), .inl (cI, 198, .inl (fun zz => nI (a3 zz)))), ((h 12), .inl (cI, 9, .inl (fun zz => nI (a4 zz)))), ((h 13), .inl (cI, 9, .inl (fA a5)))] (fun _ => rfl) [] [(h 0), (h 1), (h 2), (h 3), (h 4), (h 5), (h 6), (h 7), (h 8), (h 9), (h 10), (h 11), (h 12), (h 13)] rfl rfl rfl rfl rfl (by decide) (by decide) 0 rfl rfl rfl (Nat.le_of_ble_eq_true rfl) dX10_setOwner_2 (fun u_2 h_2 => ?_) rfl
  show J l _ D ε _ _ _ (.int (nI (b2n (inR (nI j) (F 0)))) :: _)
  refine j_if_eq EE 28 dX10_setOwner_5 (by decide) (fun c5 => absurd c5 (by rw [inR_nI hj (by omega)]; decide)) (fun c5 => ?_)
  have n5 : (b2n (inR (nI j) (F 0))) ≠ 0 := fun hq => c5 ((nI_eq (a := (b2n (inR (nI j) (F 0)))) (b := 0) (by have := b2n_lt (inR (nI j) (F 0)); omega) (by have := b2n_lt (inR (nI j) (F 0)); omega)).mpr hq)
  refine j_iload_n EE 2 dX10_setOwner_8 rfl rfl ?_
  refine j_i2l EE dX10_setOwner_9 ?_
  refine j_lconst (v := lN 0) EE dX10_setOwner_10 (by decide) ?_
  refine j_lconst (v := lN 1) EE dX10_setOwner_11 (by decide) ?_
  refine j_S2 (n9 := 14) EE (c_X10_in ((nI b).toInt64) (lN 0) (lN 1)) gX10_setOwner_X10_in hd_X10_in rfl ⟨rfl, rfl⟩ ⟨by decide, by decide⟩ rfl [] rfl [0, 1, 2, 3, 4, 5, 6, 7, 8, 9, 10, 11, 12, 13] [((h 0), .inr (6, [.ref ((h 1)), .ref ((h 2)), .ref ((h 3)), .int (nI km), .ref ((h 4)), .int (nI le), .int (nI sp), .ref ((h 5)), .ref ((h 6)), .int (nI ro), .ref ((h 7)), .ref ((h 8)), .ref ((h 9)), .ref ((h 10)), .ref ((h 11)), .ref ((h 12)), .ref ((h 13))])), ((h 1), .inl (cI, 99, .inl (sA F))), ((h 2), .inl (cI, 99, .inl fr)), ((h 3), .inl (cI, 594, .inl (kA Q))), ((h 4), .inl (cI, 200, .inl (fun zz => nI (ft zz)))), ((h 5), .inl (cI, 12, .inl (fun zz => nI (B zz)))), ((h 6), .inl (cI, 12, .inl (fun zz => nI (Bt zz)))), ((h 7), .inl (cJ, 16, .inr (.inl W))), ((h 8), .inl (cJ, 16, .inr (.inl M))), ((h 9), .inl (cI, 9, .inl (fun zz => nI (a1 zz)))), ((h 10), .inl (cI, 9, .inl (fun zz => nI (a2 zz)))), ((h 11), .inl (cI, 198, .inl (fun zz => nI (a3 zz)))), ((h 12), .inl (cI, 9, .inl (fun zz => nI (a4 zz)))), ((h 13), .inl (cI, 9, .inl (fA a5)))] (fun _ => rfl) [((h 0), .inr (6, [.ref ((h 1)), .ref ((h 2)), .ref ((h 3)), .int (nI km), .ref ((h 4)), .int (nI le), .int (nI sp), .ref ((h 5)), .ref ((h 6)), .int (nI ro), .ref ((h 7)), .ref ((h 8)), .ref ((h 9)), .ref ((h 10)), .ref ((h 11)), .ref ((h 12)), .ref ((h 13))])), ((h 1), .inl (cI, 99, .inl (sA F))), ((h 2), .inl (cI, 99, .inl fr)), ((h 3), .inl (cI, 594, .inl (kA Q))), ((h 4), .inl (cI, 200, .inl (fun zz => nI (ft zz)))), ((h 5), .inl (cI, 12, .inl (fun zz => nI (B zz)))), ((h 6), .inl (cI, 12, .inl (fun zz => nI (Bt zz)))), ((h 7), .inl (cJ, 16, .inr (.inl W))), ((h 8), .inl (cJ, 16, .inr (.inl M))), ((h 9), .inl (cI, 9, .inl (fun zz => nI (a1 zz)))), ((h 10), .inl (cI, 9, .inl (fun zz => nI (a2 zz)))), ((h 11), .inl (cI, 198, .inl (fun zz => nI (a3 zz)))), ((h 12), .inl (cI, 9, .inl (fun zz => nI (a4 zz)))), ((h 13), .inl (cI, 9, .inl (fA a5)))] [(h 0), (h 1), (h 2), (h 3), (h 4), (h 5), (h 6), (h 7), (h 8), (h 9), (h 10), (h 11), (h 12), (h 13)] rfl rfl rfl rfl rfl (by decide) (by decide) rfl (Nat.le_of_ble_eq_true rfl) dX10_setOwner_12 (fun u_12 h_12 => ?_) rfl
  show J l _ D ε _ _ _ (.int (if lN 0 ≤ (nI b).toInt64 ∧ (nI b).toInt64 ≤ lN 1 then nI 1 else nI 0) :: _)
  refine j_topE (y := nI (b2n (inR (nI b) 2))) (in_01 (nI b)) ?_
  show J l _ D ε _ _ _ (.int (nI (b2n (inR (nI b) 2))) :: _)
  refine j_if_eq EE 28 dX10_setOwner_15 (by decide) (fun c15 => absurd c15 (by rw [inR_nI hb (by omega)]; decide)) (fun c15 => ?_)
  have n15 : (b2n (inR (nI b) 2)) ≠ 0 := fun hq => c15 ((nI_eq (a := (b2n (inR (nI b) 2))) (b := 0) (by have := b2n_lt (inR (nI b) 2); omega) (by have := b2n_lt (inR (nI b) 2); omega)).mpr hq)
  refine j_aload_n EE 0 dX10_setOwner_18 rfl rfl ?_
  refine j_iconst (v := nI 2) EE dX10_setOwner_19 (by decide) ?_
  refine j_iload_n EE 1 dX10_setOwner_20 rfl rfl ?_
  refine j_iload_n EE 2 dX10_setOwner_21 rfl rfl ?_
  refine j_V2 (n9 := 14) EE (c_X10_sets h F Q ft B Bt a1 a2 a3 a4 a5 fr W M km le sp ro 2 j b hFb (by omega) (by omega) (by omega) (by omega) hkm) gX10_setOwner_X10_sets ⟨rfl, hd_X10_sets⟩ rfl ⟨rfl, rfl⟩ ⟨by decide, by decide⟩ rfl [0, 1, 2, 3, 4, 5, 6, 7, 8, 9, 10, 11, 12, 13] rfl [] [((h 0), .inr (6, [.ref ((h 1)), .ref ((h 2)), .ref ((h 3)), .int (nI (min (km + 1) 6)), .ref ((h 4)), .int (nI le), .int (nI sp), .ref ((h 5)), .ref ((h 6)), .int (nI ro), .ref ((h 7)), .ref ((h 8)), .ref ((h 9)), .ref ((h 10)), .ref ((h 11)), .ref ((h 12)), .ref ((h 13))])), ((h 1), .inl (cI, 99, .inl (sA (updN F 2 (wbit (F 2) j b))))), ((h 2), .inl (cI, 99, .inl fr)), ((h 3), .inl (cI, 594, .inl (kA (kpQ km Q F)))), ((h 4), .inl (cI, 200, .inl (fun zz => nI (ft zz)))), ((h 5), .inl (cI, 12, .inl (fun zz => nI (B zz)))), ((h 6), .inl (cI, 12, .inl (fun zz => nI (Bt zz)))), ((h 7), .inl (cJ, 16, .inr (.inl W))), ((h 8), .inl (cJ, 16, .inr (.inl M))), ((h 9), .inl (cI, 9, .inl (fun zz => nI (a1 zz)))), ((h 10), .inl (cI, 9, .inl (fun zz => nI (a2 zz)))), ((h 11), .inl (cI, 198, .inl (fun zz => nI (a3 zz)))), ((h 12), .inl (cI, 9, .inl (fun zz => nI (a4 zz)))), ((h 13), .inl (cI, 9, .inl (fA a5)))] (fun _ => rfl) [] [(h 0), (h 1), (h 2), (h 3), (h 4), (h 5), (h 6), (h 7), (h 8), (h 9), (h 10), (h 11), (h 12), (h 13)] rfl rfl rfl rfl rfl (by decide) (by decide) 0 rfl rfl rfl (Nat.le_of_ble_eq_true rfl) dX10_setOwner_22 (fun u_22 h_22 => ?_) rfl
  show J l _ D ε _ _ _ (.int (nI (bt (F 2) j)) :: _)
  refine j_goto EE 29 dX10_setOwner_25 (by decide) ?_
  exact j_iret EE FF dX10_setOwner_29 () trivial (by first | rfl | simp_all) rfl

set_option maxHeartbeats 4000000 in
set_option maxRecDepth 100000 in
theorem c_X10_setTargetE (h F Q ft B Bt a1 a2 a3 a4 a5 : Nat → Nat) (fr : Nat → Int32) (W M : Nat → Int64) (km le sp ro : Nat) (x y : Int32) (hFb : ∀ i, F i < 65536) (hi : inR x (F 0) = false ∨ inR y 2 = false) : Ct l yX10_setTarget wsX10_setTarget (rmD (3)) D [(cI, .int), (cC, .char), (cJ, .long), (cG, .object "PushdownGameSolver$Game")] [.ref ((h 0)), .int (x), .int (y)] [((h 0), .inr (6, [.ref ((h 1)), .ref ((h 2)), .ref ((h 3)), .int (nI km), .ref ((h 4)), .int (nI le), .int (nI sp), .ref ((h 5)), .ref ((h 6)), .int (nI ro), .ref ((h 7)), .ref ((h 8)), .ref ((h 9)), .ref ((h 10)), .ref ((h 11)), .ref ((h 12)), .ref ((h 13))])), ((h 1), .inl (cI, 99, .inl (sA F))), ((h 2), .inl (cI, 99, .inl fr)), ((h 3), .inl (cI, 594, .inl (kA Q))), ((h 4), .inl (cI, 200, .inl (fun zz => nI (ft zz)))), ((h 5), .inl (cI, 12, .inl (fun zz => nI (B zz)))), ((h 6), .inl (cI, 12, .inl (fun zz => nI (Bt zz)))), ((h 7), .inl (cJ, 16, .inr (.inl W))), ((h 8), .inl (cJ, 16, .inr (.inl M))), ((h 9), .inl (cI, 9, .inl (fun zz => nI (a1 zz)))), ((h 10), .inl (cI, 9, .inl (fun zz => nI (a2 zz)))), ((h 11), .inl (cI, 198, .inl (fun zz => nI (a3 zz)))), ((h 12), .inl (cI, 9, .inl (fun zz => nI (a4 zz)))), ((h 13), .inl (cI, 9, .inl (fA a5)))] (S := Unit) (fun _ => True) (fun _ => some (.int ((-1)))) (fun _ => [((h 0), .inr (6, [.ref ((h 1)), .ref ((h 2)), .ref ((h 3)), .int (nI km), .ref ((h 4)), .int (nI le), .int (nI sp), .ref ((h 5)), .ref ((h 6)), .int (nI ro), .ref ((h 7)), .ref ((h 8)), .ref ((h 9)), .ref ((h 10)), .ref ((h 11)), .ref ((h 12)), .ref ((h 13))])), ((h 1), .inl (cI, 99, .inl (sA F))), ((h 2), .inl (cI, 99, .inl fr)), ((h 3), .inl (cI, 594, .inl (kA Q))), ((h 4), .inl (cI, 200, .inl (fun zz => nI (ft zz)))), ((h 5), .inl (cI, 12, .inl (fun zz => nI (B zz)))), ((h 6), .inl (cI, 12, .inl (fun zz => nI (Bt zz)))), ((h 7), .inl (cJ, 16, .inr (.inl W))), ((h 8), .inl (cJ, 16, .inr (.inl M))), ((h 9), .inl (cI, 9, .inl (fun zz => nI (a1 zz)))), ((h 10), .inl (cI, 9, .inl (fun zz => nI (a2 zz)))), ((h 11), .inl (cI, 198, .inl (fun zz => nI (a3 zz)))), ((h 12), .inl (cI, 9, .inl (fun zz => nI (a4 zz)))), ((h 13), .inl (cI, 9, .inl (fA a5)))]) := by
  refine Ct.of (lv := [(0, .ref ((h 0))), (1, .int (x)), (2, .int (y))]) (by decide) rfl (Nat.le_of_ble_eq_true rfl) rfl ?_
  intro ε hL EE FF
  refine j_aload_n EE 0 dX10_setTarget_0 rfl rfl ?_
  refine j_iload_n EE 1 dX10_setTarget_1 rfl rfl ?_
  refine j_V2 (n9 := 14) EE (c_X10_isState h F Q ft B Bt a1 a2 a3 a4 a5 fr W M km le sp ro x hFb) gX10_setTarget_X10_isState ⟨rfl, hd_X10_isState⟩ rfl ⟨rfl, rfl⟩ ⟨by decide, by decide⟩ rfl [0, 1, 2, 3, 4, 5, 6, 7, 8, 9, 10, 11, 12, 13] rfl [] [((h 0), .inr (6, [.ref ((h 1)), .ref ((h 2)), .ref ((h 3)), .int (nI km), .ref ((h 4)), .int (nI le), .int (nI sp), .ref ((h 5)), .ref ((h 6)), .int (nI ro), .ref ((h 7)), .ref ((h 8)), .ref ((h 9)), .ref ((h 10)), .ref ((h 11)), .ref ((h 12)), .ref ((h 13))])), ((h 1), .inl (cI, 99, .inl (sA F))), ((h 2), .inl (cI, 99, .inl fr)), ((h 3), .inl (cI, 594, .inl (kA Q))), ((h 4), .inl (cI, 200, .inl (fun zz => nI (ft zz)))), ((h 5), .inl (cI, 12, .inl (fun zz => nI (B zz)))), ((h 6), .inl (cI, 12, .inl (fun zz => nI (Bt zz)))), ((h 7), .inl (cJ, 16, .inr (.inl W))), ((h 8), .inl (cJ, 16, .inr (.inl M))), ((h 9), .inl (cI, 9, .inl (fun zz => nI (a1 zz)))), ((h 10), .inl (cI, 9, .inl (fun zz => nI (a2 zz)))), ((h 11), .inl (cI, 198, .inl (fun zz => nI (a3 zz)))), ((h 12), .inl (cI, 9, .inl (fun zz => nI (a4 zz)))), ((h 13), .inl (cI, 9, .inl (fA a5)))] (fun _ => rfl) [] [(h 0), (h 1), (h 2), (h 3), (h 4), (h 5), (h 6), (h 7), (h 8), (h 9), (h 10), (h 11), (h 12), (h 13)] rfl rfl rfl rfl rfl (by decide) (by decide) 0 rfl rfl rfl (Nat.le_of_ble_eq_true rfl) dX10_setTarget_2 (fun u_2 h_2 => ?_) rfl
  show J l _ D ε _ _ _ (.int (nI (b2n (inR x (F 0)))) :: _)
  refine j_if_eq EE 28 dX10_setTarget_5 (by decide) (fun c5 => ?_) (fun c5 => ?_)
  · skip
    have n5 : (b2n (inR x (F 0))) = 0 := (nI_eq (a := (b2n (inR x (F 0)))) (b := 0) (by have := b2n_lt (inR x (F 0)); omega) (by have := b2n_lt (inR x (F 0)); omega)).mp c5
    refine j_iconst (v := (-1)) EE dX10_setTarget_28 (by decide) ?_
    exact j_iret EE FF dX10_setTarget_29 () trivial (by first | rfl | simp_all) rfl
  · skip
    have n5 : (b2n (inR x (F 0))) ≠ 0 := fun hq => c5 ((nI_eq (a := (b2n (inR x (F 0)))) (b := 0) (by have := b2n_lt (inR x (F 0)); omega) (by have := b2n_lt (inR x (F 0)); omega)).mpr hq)
    refine j_iload_n EE 2 dX10_setTarget_8 rfl rfl ?_
    refine j_i2l EE dX10_setTarget_9 ?_
    refine j_lconst (v := lN 0) EE dX10_setTarget_10 (by decide) ?_
    refine j_lconst (v := lN 1) EE dX10_setTarget_11 (by decide) ?_
    refine j_S2 (n9 := 14) EE (c_X10_in ((y).toInt64) (lN 0) (lN 1)) gX10_setTarget_X10_in hd_X10_in rfl ⟨rfl, rfl⟩ ⟨by decide, by decide⟩ rfl [] rfl [0, 1, 2, 3, 4, 5, 6, 7, 8, 9, 10, 11, 12, 13] [((h 0), .inr (6, [.ref ((h 1)), .ref ((h 2)), .ref ((h 3)), .int (nI km), .ref ((h 4)), .int (nI le), .int (nI sp), .ref ((h 5)), .ref ((h 6)), .int (nI ro), .ref ((h 7)), .ref ((h 8)), .ref ((h 9)), .ref ((h 10)), .ref ((h 11)), .ref ((h 12)), .ref ((h 13))])), ((h 1), .inl (cI, 99, .inl (sA F))), ((h 2), .inl (cI, 99, .inl fr)), ((h 3), .inl (cI, 594, .inl (kA Q))), ((h 4), .inl (cI, 200, .inl (fun zz => nI (ft zz)))), ((h 5), .inl (cI, 12, .inl (fun zz => nI (B zz)))), ((h 6), .inl (cI, 12, .inl (fun zz => nI (Bt zz)))), ((h 7), .inl (cJ, 16, .inr (.inl W))), ((h 8), .inl (cJ, 16, .inr (.inl M))), ((h 9), .inl (cI, 9, .inl (fun zz => nI (a1 zz)))), ((h 10), .inl (cI, 9, .inl (fun zz => nI (a2 zz)))), ((h 11), .inl (cI, 198, .inl (fun zz => nI (a3 zz)))), ((h 12), .inl (cI, 9, .inl (fun zz => nI (a4 zz)))), ((h 13), .inl (cI, 9, .inl (fA a5)))] (fun _ => rfl) [((h 0), .inr (6, [.ref ((h 1)), .ref ((h 2)), .ref ((h 3)), .int (nI km), .ref ((h 4)), .int (nI le), .int (nI sp), .ref ((h 5)), .ref ((h 6)), .int (nI ro), .ref ((h 7)), .ref ((h 8)), .ref ((h 9)), .ref ((h 10)), .ref ((h 11)), .ref ((h 12)), .ref ((h 13))])), ((h 1), .inl (cI, 99, .inl (sA F))), ((h 2), .inl (cI, 99, .inl fr)), ((h 3), .inl (cI, 594, .inl (kA Q))), ((h 4), .inl (cI, 200, .inl (fun zz => nI (ft zz)))), ((h 5), .inl (cI, 12, .inl (fun zz => nI (B zz)))), ((h 6), .inl (cI, 12, .inl (fun zz => nI (Bt zz)))), ((h 7), .inl (cJ, 16, .inr (.inl W))), ((h 8), .inl (cJ, 16, .inr (.inl M))), ((h 9), .inl (cI, 9, .inl (fun zz => nI (a1 zz)))), ((h 10), .inl (cI, 9, .inl (fun zz => nI (a2 zz)))), ((h 11), .inl (cI, 198, .inl (fun zz => nI (a3 zz)))), ((h 12), .inl (cI, 9, .inl (fun zz => nI (a4 zz)))), ((h 13), .inl (cI, 9, .inl (fA a5)))] [(h 0), (h 1), (h 2), (h 3), (h 4), (h 5), (h 6), (h 7), (h 8), (h 9), (h 10), (h 11), (h 12), (h 13)] rfl rfl rfl rfl rfl (by decide) (by decide) rfl (Nat.le_of_ble_eq_true rfl) dX10_setTarget_12 (fun u_12 h_12 => ?_) rfl
    show J l _ D ε _ _ _ (.int (if lN 0 ≤ (y).toInt64 ∧ (y).toInt64 ≤ lN 1 then nI 1 else nI 0) :: _)
    refine j_topE (y := nI (b2n (inR y 2))) (in_01 y) ?_
    show J l _ D ε _ _ _ (.int (nI (b2n (inR y 2))) :: _)
    refine j_if_eq EE 28 dX10_setTarget_15 (by decide) (fun c15 => ?_) (fun c15 => absurd (by rw [hi.resolve_left (by rw [b2n_ne0 n5]; decide)]; rfl) c15)
    have n15 : (b2n (inR y 2)) = 0 := (nI_eq (a := (b2n (inR y 2))) (b := 0) (by have := b2n_lt (inR y 2); omega) (by have := b2n_lt (inR y 2); omega)).mp c15
    refine j_iconst (v := (-1)) EE dX10_setTarget_28 (by decide) ?_
    exact j_iret EE FF dX10_setTarget_29 () trivial (by first | rfl | simp_all) rfl

set_option maxHeartbeats 4000000 in
set_option maxRecDepth 100000 in
theorem c_X10_setTarget (h F Q ft B Bt a1 a2 a3 a4 a5 : Nat → Nat) (fr : Nat → Int32) (W M : Nat → Int64) (km le sp ro : Nat) (j b : Nat) (hFb : ∀ i, F i < 65536) (hj : j < F 0) (h4 : F 0 ≤ 4) (hFw : F 3 < 16) (hb : b < 2) (hkm : km ≤ 6) : Ct l yX10_setTarget wsX10_setTarget (rmD (3)) D [(cI, .int), (cC, .char), (cJ, .long), (cG, .object "PushdownGameSolver$Game")] [.ref ((h 0)), .int (nI j), .int (nI b)] [((h 0), .inr (6, [.ref ((h 1)), .ref ((h 2)), .ref ((h 3)), .int (nI km), .ref ((h 4)), .int (nI le), .int (nI sp), .ref ((h 5)), .ref ((h 6)), .int (nI ro), .ref ((h 7)), .ref ((h 8)), .ref ((h 9)), .ref ((h 10)), .ref ((h 11)), .ref ((h 12)), .ref ((h 13))])), ((h 1), .inl (cI, 99, .inl (sA F))), ((h 2), .inl (cI, 99, .inl fr)), ((h 3), .inl (cI, 594, .inl (kA Q))), ((h 4), .inl (cI, 200, .inl (fun zz => nI (ft zz)))), ((h 5), .inl (cI, 12, .inl (fun zz => nI (B zz)))), ((h 6), .inl (cI, 12, .inl (fun zz => nI (Bt zz)))), ((h 7), .inl (cJ, 16, .inr (.inl W))), ((h 8), .inl (cJ, 16, .inr (.inl M))), ((h 9), .inl (cI, 9, .inl (fun zz => nI (a1 zz)))), ((h 10), .inl (cI, 9, .inl (fun zz => nI (a2 zz)))), ((h 11), .inl (cI, 198, .inl (fun zz => nI (a3 zz)))), ((h 12), .inl (cI, 9, .inl (fun zz => nI (a4 zz)))), ((h 13), .inl (cI, 9, .inl (fA a5)))] (S := Unit) (fun _ => True) (fun _ => some (.int (nI (bt (F 3) j)))) (fun _ => [((h 0), .inr (6, [.ref ((h 1)), .ref ((h 2)), .ref ((h 3)), .int (nI (min (km + 1) 6)), .ref ((h 4)), .int (nI le), .int (nI sp), .ref ((h 5)), .ref ((h 6)), .int (nI ro), .ref ((h 7)), .ref ((h 8)), .ref ((h 9)), .ref ((h 10)), .ref ((h 11)), .ref ((h 12)), .ref ((h 13))])), ((h 1), .inl (cI, 99, .inl (sA (updN F 3 (wbit (F 3) j b))))), ((h 2), .inl (cI, 99, .inl fr)), ((h 3), .inl (cI, 594, .inl (kA (kpQ km Q F)))), ((h 4), .inl (cI, 200, .inl (fun zz => nI (ft zz)))), ((h 5), .inl (cI, 12, .inl (fun zz => nI (B zz)))), ((h 6), .inl (cI, 12, .inl (fun zz => nI (Bt zz)))), ((h 7), .inl (cJ, 16, .inr (.inl W))), ((h 8), .inl (cJ, 16, .inr (.inl M))), ((h 9), .inl (cI, 9, .inl (fun zz => nI (a1 zz)))), ((h 10), .inl (cI, 9, .inl (fun zz => nI (a2 zz)))), ((h 11), .inl (cI, 198, .inl (fun zz => nI (a3 zz)))), ((h 12), .inl (cI, 9, .inl (fun zz => nI (a4 zz)))), ((h 13), .inl (cI, 9, .inl (fA a5)))]) := by
  refine Ct.of (lv := [(0, .ref ((h 0))), (1, .int (nI j)), (2, .int (nI b))]) (by decide) rfl (Nat.le_of_ble_eq_true rfl) rfl ?_
  intro ε hL EE FF
  refine j_aload_n EE 0 dX10_setTarget_0 rfl rfl ?_
  refine j_iload_n EE 1 dX10_setTarget_1 rfl rfl ?_
  refine j_V2 (n9 := 14) EE (c_X10_isState h F Q ft B Bt a1 a2 a3 a4 a5 fr W M km le sp ro (nI j) hFb) gX10_setTarget_X10_isState ⟨rfl, hd_X10_isState⟩ rfl ⟨rfl, rfl⟩ ⟨by decide, by decide⟩ rfl [0, 1, 2, 3, 4, 5, 6, 7, 8, 9, 10, 11, 12, 13] rfl [] [((h 0), .inr (6, [.ref ((h 1)), .ref ((h 2)), .ref ((h 3)), .int (nI km), .ref ((h 4)), .int (nI le), .int (nI sp), .ref ((h 5)), .ref ((h 6)), .int (nI ro), .ref ((h 7)), .ref ((h 8)), .ref ((h 9)), .ref ((h 10)), .ref ((h 11)), .ref ((h 12)), .ref ((h 13))])), ((h 1), .inl (cI, 99, .inl (sA F))), ((h 2), .inl (cI, 99, .inl fr)), ((h 3), .inl (cI, 594, .inl (kA Q))), ((h 4), .inl (cI, 200, .inl (fun zz => nI (ft zz)))), ((h 5), .inl (cI, 12, .inl (fun zz => nI (B zz)))), ((h 6), .inl (cI, 12, .inl (fun zz => nI (Bt zz)))), ((h 7), .inl (cJ, 16, .inr (.inl W))), ((h 8), .inl (cJ, 16, .inr (.inl M))), ((h 9), .inl (cI, 9, .inl (fun zz => nI (a1 zz)))), ((h 10), .inl (cI, 9, .inl (fun zz => nI (a2 zz)))), ((h 11), .inl (cI, 198, .inl (fun zz => nI (a3 zz)))), ((h 12), .inl (cI, 9, .inl (fun zz => nI (a4 zz)))), ((h 13), .inl (cI, 9, .inl (fA a5)))] (fun _ => rfl) [] [(h 0), (h 1), (h 2), (h 3), (h 4), (h 5), (h 6), (h 7), (h 8), (h 9), (h 10), (h 11), (h 12), (h 13)] rfl rfl rfl rfl rfl (by decide) (by decide) 0 rfl rfl rfl (Nat.le_of_ble_eq_true rfl) dX10_setTarget_2 (fun u_2 h_2 => ?_) rfl
  show J l _ D ε _ _ _ (.int (nI (b2n (inR (nI j) (F 0)))) :: _)
  refine j_if_eq EE 28 dX10_setTarget_5 (by decide) (fun c5 => absurd c5 (by rw [inR_nI hj (by omega)]; decide)) (fun c5 => ?_)
  have n5 : (b2n (inR (nI j) (F 0))) ≠ 0 := fun hq => c5 ((nI_eq (a := (b2n (inR (nI j) (F 0)))) (b := 0) (by have := b2n_lt (inR (nI j) (F 0)); omega) (by have := b2n_lt (inR (nI j) (F 0)); omega)).mpr hq)
  refine j_iload_n EE 2 dX10_setTarget_8 rfl rfl ?_
  refine j_i2l EE dX10_setTarget_9 ?_
  refine j_lconst (v := lN 0) EE dX10_setTarget_10 (by decide) ?_
  refine j_lconst (v := lN 1) EE dX10_setTarget_11 (by decide) ?_
  refine j_S2 (n9 := 14) EE (c_X10_in ((nI b).toInt64) (lN 0) (lN 1)) gX10_setTarget_X10_in hd_X10_in rfl ⟨rfl, rfl⟩ ⟨by decide, by decide⟩ rfl [] rfl [0, 1, 2, 3, 4, 5, 6, 7, 8, 9, 10, 11, 12, 13] [((h 0), .inr (6, [.ref ((h 1)), .ref ((h 2)), .ref ((h 3)), .int (nI km), .ref ((h 4)), .int (nI le), .int (nI sp), .ref ((h 5)), .ref ((h 6)), .int (nI ro), .ref ((h 7)), .ref ((h 8)), .ref ((h 9)), .ref ((h 10)), .ref ((h 11)), .ref ((h 12)), .ref ((h 13))])), ((h 1), .inl (cI, 99, .inl (sA F))), ((h 2), .inl (cI, 99, .inl fr)), ((h 3), .inl (cI, 594, .inl (kA Q))), ((h 4), .inl (cI, 200, .inl (fun zz => nI (ft zz)))), ((h 5), .inl (cI, 12, .inl (fun zz => nI (B zz)))), ((h 6), .inl (cI, 12, .inl (fun zz => nI (Bt zz)))), ((h 7), .inl (cJ, 16, .inr (.inl W))), ((h 8), .inl (cJ, 16, .inr (.inl M))), ((h 9), .inl (cI, 9, .inl (fun zz => nI (a1 zz)))), ((h 10), .inl (cI, 9, .inl (fun zz => nI (a2 zz)))), ((h 11), .inl (cI, 198, .inl (fun zz => nI (a3 zz)))), ((h 12), .inl (cI, 9, .inl (fun zz => nI (a4 zz)))), ((h 13), .inl (cI, 9, .inl (fA a5)))] (fun _ => rfl) [((h 0), .inr (6, [.ref ((h 1)), .ref ((h 2)), .ref ((h 3)), .int (nI km), .ref ((h 4)), .int (nI le), .int (nI sp), .ref ((h 5)), .ref ((h 6)), .int (nI ro), .ref ((h 7)), .ref ((h 8)), .ref ((h 9)), .ref ((h 10)), .ref ((h 11)), .ref ((h 12)), .ref ((h 13))])), ((h 1), .inl (cI, 99, .inl (sA F))), ((h 2), .inl (cI, 99, .inl fr)), ((h 3), .inl (cI, 594, .inl (kA Q))), ((h 4), .inl (cI, 200, .inl (fun zz => nI (ft zz)))), ((h 5), .inl (cI, 12, .inl (fun zz => nI (B zz)))), ((h 6), .inl (cI, 12, .inl (fun zz => nI (Bt zz)))), ((h 7), .inl (cJ, 16, .inr (.inl W))), ((h 8), .inl (cJ, 16, .inr (.inl M))), ((h 9), .inl (cI, 9, .inl (fun zz => nI (a1 zz)))), ((h 10), .inl (cI, 9, .inl (fun zz => nI (a2 zz)))), ((h 11), .inl (cI, 198, .inl (fun zz => nI (a3 zz)))), ((h 12), .inl (cI, 9, .inl (fun zz => nI (a4 zz)))), ((h 13), .inl (cI, 9, .inl (fA a5)))] [(h 0), (h 1), (h 2), (h 3), (h 4), (h 5), (h 6), (h 7), (h 8), (h 9), (h 10), (h 11), (h 12), (h 13)] rfl rfl rfl rfl rfl (by decide) (by decide) rfl (Nat.le_of_ble_eq_true rfl) dX10_setTarget_12 (fun u_12 h_12 => ?_) rfl
  show J l _ D ε _ _ _ (.int (if lN 0 ≤ (nI b).toInt64 ∧ (nI b).toInt64 ≤ lN 1 then nI 1 else nI 0) :: _)
  refine j_topE (y := nI (b2n (inR (nI b) 2))) (in_01 (nI b)) ?_
  show J l _ D ε _ _ _ (.int (nI (b2n (inR (nI b) 2))) :: _)
  refine j_if_eq EE 28 dX10_setTarget_15 (by decide) (fun c15 => absurd c15 (by rw [inR_nI hb (by omega)]; decide)) (fun c15 => ?_)
  have n15 : (b2n (inR (nI b) 2)) ≠ 0 := fun hq => c15 ((nI_eq (a := (b2n (inR (nI b) 2))) (b := 0) (by have := b2n_lt (inR (nI b) 2); omega) (by have := b2n_lt (inR (nI b) 2); omega)).mpr hq)
  refine j_aload_n EE 0 dX10_setTarget_18 rfl rfl ?_
  refine j_iconst (v := nI 3) EE dX10_setTarget_19 (by decide) ?_
  refine j_iload_n EE 1 dX10_setTarget_20 rfl rfl ?_
  refine j_iload_n EE 2 dX10_setTarget_21 rfl rfl ?_
  refine j_V2 (n9 := 14) EE (c_X10_sets h F Q ft B Bt a1 a2 a3 a4 a5 fr W M km le sp ro 3 j b hFb (by omega) (by omega) (by omega) (by omega) hkm) gX10_setTarget_X10_sets ⟨rfl, hd_X10_sets⟩ rfl ⟨rfl, rfl⟩ ⟨by decide, by decide⟩ rfl [0, 1, 2, 3, 4, 5, 6, 7, 8, 9, 10, 11, 12, 13] rfl [] [((h 0), .inr (6, [.ref ((h 1)), .ref ((h 2)), .ref ((h 3)), .int (nI (min (km + 1) 6)), .ref ((h 4)), .int (nI le), .int (nI sp), .ref ((h 5)), .ref ((h 6)), .int (nI ro), .ref ((h 7)), .ref ((h 8)), .ref ((h 9)), .ref ((h 10)), .ref ((h 11)), .ref ((h 12)), .ref ((h 13))])), ((h 1), .inl (cI, 99, .inl (sA (updN F 3 (wbit (F 3) j b))))), ((h 2), .inl (cI, 99, .inl fr)), ((h 3), .inl (cI, 594, .inl (kA (kpQ km Q F)))), ((h 4), .inl (cI, 200, .inl (fun zz => nI (ft zz)))), ((h 5), .inl (cI, 12, .inl (fun zz => nI (B zz)))), ((h 6), .inl (cI, 12, .inl (fun zz => nI (Bt zz)))), ((h 7), .inl (cJ, 16, .inr (.inl W))), ((h 8), .inl (cJ, 16, .inr (.inl M))), ((h 9), .inl (cI, 9, .inl (fun zz => nI (a1 zz)))), ((h 10), .inl (cI, 9, .inl (fun zz => nI (a2 zz)))), ((h 11), .inl (cI, 198, .inl (fun zz => nI (a3 zz)))), ((h 12), .inl (cI, 9, .inl (fun zz => nI (a4 zz)))), ((h 13), .inl (cI, 9, .inl (fA a5)))] (fun _ => rfl) [] [(h 0), (h 1), (h 2), (h 3), (h 4), (h 5), (h 6), (h 7), (h 8), (h 9), (h 10), (h 11), (h 12), (h 13)] rfl rfl rfl rfl rfl (by decide) (by decide) 0 rfl rfl rfl (Nat.le_of_ble_eq_true rfl) dX10_setTarget_22 (fun u_22 h_22 => ?_) rfl
  show J l _ D ε _ _ _ (.int (nI (bt (F 3) j)) :: _)
  refine j_goto EE 29 dX10_setTarget_25 (by decide) ?_
  exact j_iret EE FF dX10_setTarget_29 () trivial (by first | rfl | simp_all) rfl

set_option maxHeartbeats 4000000 in
set_option maxRecDepth 100000 in
theorem c_X10_removeRuleE (h F Q ft B Bt a1 a2 a3 a4 a5 : Nat → Nat) (fr : Nat → Int32) (W M : Nat → Int64) (km le sp ro : Nat) (x : Int32) (hFb : ∀ i, F i < 65536) (hi : inR x (F 4) = false) : Ct l yX10_removeRule wsX10_removeRule (rmD (3)) D [(cI, .int), (cC, .char), (cJ, .long), (cG, .object "PushdownGameSolver$Game")] [.ref ((h 0)), .int (x)] [((h 0), .inr (6, [.ref ((h 1)), .ref ((h 2)), .ref ((h 3)), .int (nI km), .ref ((h 4)), .int (nI le), .int (nI sp), .ref ((h 5)), .ref ((h 6)), .int (nI ro), .ref ((h 7)), .ref ((h 8)), .ref ((h 9)), .ref ((h 10)), .ref ((h 11)), .ref ((h 12)), .ref ((h 13))])), ((h 1), .inl (cI, 99, .inl (sA F))), ((h 2), .inl (cI, 99, .inl fr)), ((h 3), .inl (cI, 594, .inl (kA Q))), ((h 4), .inl (cI, 200, .inl (fun zz => nI (ft zz)))), ((h 5), .inl (cI, 12, .inl (fun zz => nI (B zz)))), ((h 6), .inl (cI, 12, .inl (fun zz => nI (Bt zz)))), ((h 7), .inl (cJ, 16, .inr (.inl W))), ((h 8), .inl (cJ, 16, .inr (.inl M))), ((h 9), .inl (cI, 9, .inl (fun zz => nI (a1 zz)))), ((h 10), .inl (cI, 9, .inl (fun zz => nI (a2 zz)))), ((h 11), .inl (cI, 198, .inl (fun zz => nI (a3 zz)))), ((h 12), .inl (cI, 9, .inl (fun zz => nI (a4 zz)))), ((h 13), .inl (cI, 9, .inl (fA a5)))] (S := Unit) (fun _ => True) (fun _ => some (.int ((-1)))) (fun _ => [((h 0), .inr (6, [.ref ((h 1)), .ref ((h 2)), .ref ((h 3)), .int (nI km), .ref ((h 4)), .int (nI le), .int (nI sp), .ref ((h 5)), .ref ((h 6)), .int (nI ro), .ref ((h 7)), .ref ((h 8)), .ref ((h 9)), .ref ((h 10)), .ref ((h 11)), .ref ((h 12)), .ref ((h 13))])), ((h 1), .inl (cI, 99, .inl (sA F))), ((h 2), .inl (cI, 99, .inl fr)), ((h 3), .inl (cI, 594, .inl (kA Q))), ((h 4), .inl (cI, 200, .inl (fun zz => nI (ft zz)))), ((h 5), .inl (cI, 12, .inl (fun zz => nI (B zz)))), ((h 6), .inl (cI, 12, .inl (fun zz => nI (Bt zz)))), ((h 7), .inl (cJ, 16, .inr (.inl W))), ((h 8), .inl (cJ, 16, .inr (.inl M))), ((h 9), .inl (cI, 9, .inl (fun zz => nI (a1 zz)))), ((h 10), .inl (cI, 9, .inl (fun zz => nI (a2 zz)))), ((h 11), .inl (cI, 198, .inl (fun zz => nI (a3 zz)))), ((h 12), .inl (cI, 9, .inl (fun zz => nI (a4 zz)))), ((h 13), .inl (cI, 9, .inl (fA a5)))]) := by
  refine Ct.of (lv := [(0, .ref ((h 0))), (1, .int (x))]) (by decide) rfl (Nat.le_of_ble_eq_true rfl) rfl ?_
  intro ε hL EE FF
  refine j_aload_n EE 0 dX10_removeRule_0 rfl rfl ?_
  refine j_iload_n EE 1 dX10_removeRule_1 rfl rfl ?_
  refine j_V2 (n9 := 14) EE (c_X10_isRule h F Q ft B Bt a1 a2 a3 a4 a5 fr W M km le sp ro x hFb) gX10_removeRule_X10_isRule ⟨rfl, hd_X10_isRule⟩ rfl ⟨rfl, rfl⟩ ⟨by decide, by decide⟩ rfl [0, 1, 2, 3, 4, 5, 6, 7, 8, 9, 10, 11, 12, 13] rfl [] [((h 0), .inr (6, [.ref ((h 1)), .ref ((h 2)), .ref ((h 3)), .int (nI km), .ref ((h 4)), .int (nI le), .int (nI sp), .ref ((h 5)), .ref ((h 6)), .int (nI ro), .ref ((h 7)), .ref ((h 8)), .ref ((h 9)), .ref ((h 10)), .ref ((h 11)), .ref ((h 12)), .ref ((h 13))])), ((h 1), .inl (cI, 99, .inl (sA F))), ((h 2), .inl (cI, 99, .inl fr)), ((h 3), .inl (cI, 594, .inl (kA Q))), ((h 4), .inl (cI, 200, .inl (fun zz => nI (ft zz)))), ((h 5), .inl (cI, 12, .inl (fun zz => nI (B zz)))), ((h 6), .inl (cI, 12, .inl (fun zz => nI (Bt zz)))), ((h 7), .inl (cJ, 16, .inr (.inl W))), ((h 8), .inl (cJ, 16, .inr (.inl M))), ((h 9), .inl (cI, 9, .inl (fun zz => nI (a1 zz)))), ((h 10), .inl (cI, 9, .inl (fun zz => nI (a2 zz)))), ((h 11), .inl (cI, 198, .inl (fun zz => nI (a3 zz)))), ((h 12), .inl (cI, 9, .inl (fun zz => nI (a4 zz)))), ((h 13), .inl (cI, 9, .inl (fA a5)))] (fun _ => rfl) [] [(h 0), (h 1), (h 2), (h 3), (h 4), (h 5), (h 6), (h 7), (h 8), (h 9), (h 10), (h 11), (h 12), (h 13)] rfl rfl rfl rfl rfl (by decide) (by decide) 0 rfl rfl rfl (Nat.le_of_ble_eq_true rfl) dX10_removeRule_2 (fun u_2 h_2 => ?_) rfl
  show J l _ D ε _ _ _ (.int (nI (b2n (inR x (F 4)))) :: _)
  refine j_if_ne EE 10 dX10_removeRule_5 (by decide) (fun c5 => absurd (by rw [hi]; rfl) c5) (fun c5 => ?_)
  have n5 : (b2n (inR x (F 4))) = 0 := (nI_eq (a := (b2n (inR x (F 4)))) (b := 0) (by have := b2n_lt (inR x (F 4)); omega) (by have := b2n_lt (inR x (F 4)); omega)).mp c5
  refine j_iconst (v := (-1)) EE dX10_removeRule_8 (by decide) ?_
  exact j_iret EE FF dX10_removeRule_9 () trivial (by first | rfl | simp_all) rfl

theorem iw_X10_removeRule_X10 : ∀ w ∈ wsX100, w ∈ wsX10_removeRule := fun _ h => List.mem_cons_of_mem _ (List.mem_append_right _ h)
theorem lk_X10_removeRule_7 : Cond.fieldLink RX10 7 (TX10 0).1 (TX10 0).2.1 (TX10 0).2.2.1 ∈ wsX10_removeRule := List.mem_of_getElem? (i := 1) rfl
set_option maxHeartbeats 4000000 in
set_option maxRecDepth 100000 in
theorem c_X10_removeRule (h F Q ft B Bt a1 a2 a3 a4 a5 : Nat → Nat) (fr : Nat → Int32) (W M : Nat → Int64) (km le sp ro : Nat) (j : Nat) (hFb : ∀ i, F i < 65536) (hj : j < F 4) (hn : F 4 ≤ 16) (hkm : km ≤ 6) : Ct l yX10_removeRule wsX10_removeRule (rmD (3)) D [(cI, .int), (cC, .char), (cJ, .long), (cG, .object "PushdownGameSolver$Game")] [.ref ((h 0)), .int (nI j)] [((h 0), .inr (6, [.ref ((h 1)), .ref ((h 2)), .ref ((h 3)), .int (nI km), .ref ((h 4)), .int (nI le), .int (nI sp), .ref ((h 5)), .ref ((h 6)), .int (nI ro), .ref ((h 7)), .ref ((h 8)), .ref ((h 9)), .ref ((h 10)), .ref ((h 11)), .ref ((h 12)), .ref ((h 13))])), ((h 1), .inl (cI, 99, .inl (sA F))), ((h 2), .inl (cI, 99, .inl fr)), ((h 3), .inl (cI, 594, .inl (kA Q))), ((h 4), .inl (cI, 200, .inl (fun zz => nI (ft zz)))), ((h 5), .inl (cI, 12, .inl (fun zz => nI (B zz)))), ((h 6), .inl (cI, 12, .inl (fun zz => nI (Bt zz)))), ((h 7), .inl (cJ, 16, .inr (.inl W))), ((h 8), .inl (cJ, 16, .inr (.inl M))), ((h 9), .inl (cI, 9, .inl (fun zz => nI (a1 zz)))), ((h 10), .inl (cI, 9, .inl (fun zz => nI (a2 zz)))), ((h 11), .inl (cI, 198, .inl (fun zz => nI (a3 zz)))), ((h 12), .inl (cI, 9, .inl (fun zz => nI (a4 zz)))), ((h 13), .inl (cI, 9, .inl (fA a5)))] (S := Unit) (fun _ => True) (fun _ => some (.int (nI (F 4 - 1)))) (fun _ => [((h 0), .inr (6, [.ref ((h 1)), .ref ((h 2)), .ref ((h 3)), .int (nI (min (km + 1) 6)), .ref ((h 4)), .int (nI le), .int (nI sp), .ref ((h 5)), .ref ((h 6)), .int (nI ro), .ref ((h 7)), .ref ((h 8)), .ref ((h 9)), .ref ((h 10)), .ref ((h 11)), .ref ((h 12)), .ref ((h 13))])), ((h 1), .inl (cI, 99, .inl (sA (rmF F j (5 + 5 * (F 4 - 1)))))), ((h 2), .inl (cI, 99, .inl fr)), ((h 3), .inl (cI, 594, .inl (kA (kpQ km Q F)))), ((h 4), .inl (cI, 200, .inl (fun zz => nI (ft zz)))), ((h 5), .inl (cI, 12, .inl (fun zz => nI (B zz)))), ((h 6), .inl (cI, 12, .inl (fun zz => nI (Bt zz)))), ((h 7), .inl (cJ, 16, .inr (.inl W))), ((h 8), .inl (cJ, 16, .inr (.inl M))), ((h 9), .inl (cI, 9, .inl (fun zz => nI (a1 zz)))), ((h 10), .inl (cI, 9, .inl (fun zz => nI (a2 zz)))), ((h 11), .inl (cI, 198, .inl (fun zz => nI (a3 zz)))), ((h 12), .inl (cI, 9, .inl (fun zz => nI (a4 zz)))), ((h 13), .inl (cI, 9, .inl (fA a5)))]) := by
  refine Ct.of (lv := [(0, .ref ((h 0))), (1, .int (nI j))]) (by decide) rfl (Nat.le_of_ble_eq_true rfl) rfl ?_
  intro ε hL EE FF
  have Lp_30 : ∀ (nf : Nat), ∀ (k : Nat), 85 - k < nf → (5 + 5 * j ≤ k) → (k ≤ 5 + 5 * (F 4 - 1)) → J l (rmD (3)) D ε [((h 0), .inr (6, [.ref ((h 1)), .ref ((h 2)), .ref ((h 3)), .int (nI (min (km + 1) 6)), .ref ((h 4)), .int (nI le), .int (nI sp), .ref ((h 5)), .ref ((h 6)), .int (nI ro), .ref ((h 7)), .ref ((h 8)), .ref ((h 9)), .ref ((h 10)), .ref ((h 11)), .ref ((h 12)), .ref ((h 13))])), ((h 1), .inl (cI, 99, .inl (sA (rmF F j k)))), ((h 2), .inl (cI, 99, .inl fr)), ((h 3), .inl (cI, 594, .inl (kA (kpQ km Q F)))), ((h 4), .inl (cI, 200, .inl (fun zz => nI (ft zz)))), ((h 5), .inl (cI, 12, .inl (fun zz => nI (B zz)))), ((h 6), .inl (cI, 12, .inl (fun zz => nI (Bt zz)))), ((h 7), .inl (cJ, 16, .inr (.inl W))), ((h 8), .inl (cJ, 16, .inr (.inl M))), ((h 9), .inl (cI, 9, .inl (fun zz => nI (a1 zz)))), ((h 10), .inl (cI, 9, .inl (fun zz => nI (a2 zz)))), ((h 11), .inl (cI, 198, .inl (fun zz => nI (a3 zz)))), ((h 12), .inl (cI, 9, .inl (fun zz => nI (a4 zz)))), ((h 13), .inl (cI, 9, .inl (fA a5)))] 30 [(2, .int (nI k)), (0, .ref ((h 0))), (1, .int (nI j))] [] := by
    intro nf
    induction nf with
    | zero => intro k hm; exact absurd hm (Nat.not_lt_zero _)
    | succ nf ihp_30 =>
      intro k hm30 hk hk2
      refine j_iload_n EE 0 dX10_removeRule_30 rfl rfl ?_
      refine j_iconst (v := nI 5) EE dX10_removeRule_31 (by decide) ?_
      refine j_iconst (v := nI 5) EE dX10_removeRule_32 (by decide) ?_
      refine j_aload_n EE 1 dX10_removeRule_33 rfl rfl ?_
      refine j_get (T := TX10) EE iw_X10_removeRule_X10 0 rfl rfl 0 (by decide) lk_X10_removeRule_7 rfl dX10_removeRule_34 ?_
      refine j_iconst (v := nI 4) EE dX10_removeRule_37 (by decide) ?_
      refine j_iald EE 1 0 rfl rfl (vp_in_nI (n := 4) (by omega) (by decide)) dX10_removeRule_38 ?_
      refine j_topE (congrArg (sA (rmF F j k)) (nI_clamp (n := 4) (by omega))) ?_
      refine j_topE (y := nI (F 4 - 1)) (by rw [sA_n (by omega), rmF_4]) ?_
      refine j_imul EE dX10_removeRule_39 ?_
      refine j_topE (pk_mul 5 (F 4 - 1)) ?_
      refine j_iadd EE dX10_removeRule_40 ?_
      refine j_topE (nI_add 5 (5 * (F 4 - 1))) ?_
      refine j_icmp_ge EE 64 dX10_removeRule_41 (by decide) (fun c41 => ?_) (fun c41 => ?_)
      · skip
        have n41 : (5 + (5 * (F 4 - 1))) ≤ k := (nI_leI (a := (5 + (5 * (F 4 - 1)))) (b := k) (by omega) (by omega)).mp c41
        refine j_aload_n EE 1 dX10_removeRule_64 rfl rfl ?_
        refine j_get (T := TX10) EE iw_X10_removeRule_X10 0 rfl rfl 0 (by decide) lk_X10_removeRule_7 rfl dX10_removeRule_65 ?_
        refine j_iconst (v := nI 4) EE dX10_removeRule_68 (by decide) ?_
        refine j_iald EE 1 0 rfl rfl (vp_in_nI (n := 4) (by omega) (by decide)) dX10_removeRule_69 ?_
        refine j_topE (congrArg (sA (rmF F j k)) (nI_clamp (n := 4) (by omega))) ?_
        refine j_topE (y := nI (F 4 - 1)) (by rw [sA_n (by omega), rmF_4]) ?_
        exact j_iret EE FF dX10_removeRule_70 () trivial (by first | rfl | simp_all) (by rw [show k = 5 + 5 * (F 4 - 1) by omega])
      · skip
        have n41 : ¬ (5 + (5 * (F 4 - 1))) ≤ k := fun hq => c41 ((nI_leI (a := (5 + (5 * (F 4 - 1)))) (b := k) (by omega) (by omega)).mpr hq)
        refine j_aload_n EE 1 dX10_removeRule_44 rfl rfl ?_
        refine j_get (T := TX10) EE iw_X10_removeRule_X10 0 rfl rfl 0 (by decide) lk_X10_removeRule_7 rfl dX10_removeRule_45 ?_
        refine j_iload_n EE 0 dX10_removeRule_48 rfl rfl ?_
        refine j_aload_n EE 1 dX10_removeRule_49 rfl rfl ?_
        refine j_get (T := TX10) EE iw_X10_removeRule_X10 0 rfl rfl 0 (by decide) lk_X10_removeRule_7 rfl dX10_removeRule_50 ?_
        refine j_iload_n EE 0 dX10_removeRule_53 rfl rfl ?_
        refine j_iconst (v := nI 5) EE dX10_removeRule_54 (by decide) ?_
        refine j_iadd EE dX10_removeRule_55 ?_
        refine j_topE (nI_add k 5) ?_
        refine j_iald EE 1 0 rfl rfl (vp_in_nI (n := k + 5) (by omega) (by decide)) dX10_removeRule_56 ?_
        refine j_topE (congrArg (sA (rmF F j k)) (nI_clamp (n := k + 5) (by omega))) ?_
        refine j_iast (ws' := [((h 0), .inr (6, [.ref ((h 1)), .ref ((h 2)), .ref ((h 3)), .int (nI (min (km + 1) 6)), .ref ((h 4)), .int (nI le), .int (nI sp), .ref ((h 5)), .ref ((h 6)), .int (nI ro), .ref ((h 7)), .ref ((h 8)), .ref ((h 9)), .ref ((h 10)), .ref ((h 11)), .ref ((h 12)), .ref ((h 13))])), ((h 1), .inl (cI, 99, .inl (sA (rmF F j (k + 1))))), ((h 2), .inl (cI, 99, .inl fr)), ((h 3), .inl (cI, 594, .inl (kA (kpQ km Q F)))), ((h 4), .inl (cI, 200, .inl (fun zz => nI (ft zz)))), ((h 5), .inl (cI, 12, .inl (fun zz => nI (B zz)))), ((h 6), .inl (cI, 12, .inl (fun zz => nI (Bt zz)))), ((h 7), .inl (cJ, 16, .inr (.inl W))), ((h 8), .inl (cJ, 16, .inr (.inl M))), ((h 9), .inl (cI, 9, .inl (fun zz => nI (a1 zz)))), ((h 10), .inl (cI, 9, .inl (fun zz => nI (a2 zz)))), ((h 11), .inl (cI, 198, .inl (fun zz => nI (a3 zz)))), ((h 12), .inl (cI, 9, .inl (fun zz => nI (a4 zz)))), ((h 13), .inl (cI, 9, .inl (fA a5)))]) EE 1 0 rfl rfl (vp_in_nI (n := k) (by omega) (by decide)) (by rw [nI_clamp (by omega), upd_ss (by omega) (by omega), rmF_s F j k hk]; rfl) dX10_removeRule_57 ?_
        refine j_iinc (v := nI (k + 1)) EE 0 [(2, .int (nI (k + 1))), (0, _), (1, _)] dX10_removeRule_58 rfl (nI_1 k) (Nat.lt_of_lt_of_eq (by decide) hL.symm) rfl ?_
        refine j_goto EE 30 dX10_removeRule_61 (by decide) ?_
        exact ihp_30 (k + 1) (by omega) (by omega) (by omega)
  refine j_aload_n EE 0 dX10_removeRule_0 rfl rfl ?_
  refine j_iload_n EE 1 dX10_removeRule_1 rfl rfl ?_
  refine j_V2 (n9 := 14) EE (c_X10_isRule h F Q ft B Bt a1 a2 a3 a4 a5 fr W M km le sp ro (nI j) hFb) gX10_removeRule_X10_isRule ⟨rfl, hd_X10_isRule⟩ rfl ⟨rfl, rfl⟩ ⟨by decide, by decide⟩ rfl [0, 1, 2, 3, 4, 5, 6, 7, 8, 9, 10, 11, 12, 13] rfl [] [((h 0), .inr (6, [.ref ((h 1)), .ref ((h 2)), .ref ((h 3)), .int (nI km), .ref ((h 4)), .int (nI le), .int (nI sp), .ref ((h 5)), .ref ((h 6)), .int (nI ro), .ref ((h 7)), .ref ((h 8)), .ref ((h 9)), .ref ((h 10)), .ref ((h 11)), .ref ((h 12)), .ref ((h 13))])), ((h 1), .inl (cI, 99, .inl (sA F))), ((h 2), .inl (cI, 99, .inl fr)), ((h 3), .inl (cI, 594, .inl (kA Q))), ((h 4), .inl (cI, 200, .inl (fun zz => nI (ft zz)))), ((h 5), .inl (cI, 12, .inl (fun zz => nI (B zz)))), ((h 6), .inl (cI, 12, .inl (fun zz => nI (Bt zz)))), ((h 7), .inl (cJ, 16, .inr (.inl W))), ((h 8), .inl (cJ, 16, .inr (.inl M))), ((h 9), .inl (cI, 9, .inl (fun zz => nI (a1 zz)))), ((h 10), .inl (cI, 9, .inl (fun zz => nI (a2 zz)))), ((h 11), .inl (cI, 198, .inl (fun zz => nI (a3 zz)))), ((h 12), .inl (cI, 9, .inl (fun zz => nI (a4 zz)))), ((h 13), .inl (cI, 9, .inl (fA a5)))] (fun _ => rfl) [] [(h 0), (h 1), (h 2), (h 3), (h 4), (h 5), (h 6), (h 7), (h 8), (h 9), (h 10), (h 11), (h 12), (h 13)] rfl rfl rfl rfl rfl (by decide) (by decide) 0 rfl rfl rfl (Nat.le_of_ble_eq_true rfl) dX10_removeRule_2 (fun u_2 h_2 => ?_) rfl
  show J l _ D ε _ _ _ (.int (nI (b2n (inR (nI j) (F 4)))) :: _)
  refine j_if_ne EE 10 dX10_removeRule_5 (by decide) (fun c5 => ?_) (fun c5 => absurd c5 (by rw [inR_nI hj (by omega)]; decide))
  have n5 : (b2n (inR (nI j) (F 4))) ≠ 0 := fun hq => c5 ((nI_eq (a := (b2n (inR (nI j) (F 4)))) (b := 0) (by have := b2n_lt (inR (nI j) (F 4)); omega) (by have := b2n_lt (inR (nI j) (F 4)); omega)).mpr hq)
  refine j_aload_n EE 0 dX10_removeRule_10 rfl rfl ?_
  refine j_V2 (n9 := 14) EE (c_X10_keepsC h F Q ft B Bt a1 a2 a3 a4 a5 fr W M km le sp ro hkm) gX10_removeRule_X10_keeps ⟨rfl, hd_X10_keeps⟩ rfl ⟨rfl, rfl⟩ ⟨by decide, by decide⟩ rfl [0, 1, 2, 3, 4, 5, 6, 7, 8, 9, 10, 11, 12, 13] rfl [] [((h 0), .inr (6, [.ref ((h 1)), .ref ((h 2)), .ref ((h 3)), .int (nI (min (km + 1) 6)), .ref ((h 4)), .int (nI le), .int (nI sp), .ref ((h 5)), .ref ((h 6)), .int (nI ro), .ref ((h 7)), .ref ((h 8)), .ref ((h 9)), .ref ((h 10)), .ref ((h 11)), .ref ((h 12)), .ref ((h 13))])), ((h 1), .inl (cI, 99, .inl (sA F))), ((h 2), .inl (cI, 99, .inl fr)), ((h 3), .inl (cI, 594, .inl (kA (kpQ km Q F)))), ((h 4), .inl (cI, 200, .inl (fun zz => nI (ft zz)))), ((h 5), .inl (cI, 12, .inl (fun zz => nI (B zz)))), ((h 6), .inl (cI, 12, .inl (fun zz => nI (Bt zz)))), ((h 7), .inl (cJ, 16, .inr (.inl W))), ((h 8), .inl (cJ, 16, .inr (.inl M))), ((h 9), .inl (cI, 9, .inl (fun zz => nI (a1 zz)))), ((h 10), .inl (cI, 9, .inl (fun zz => nI (a2 zz)))), ((h 11), .inl (cI, 198, .inl (fun zz => nI (a3 zz)))), ((h 12), .inl (cI, 9, .inl (fun zz => nI (a4 zz)))), ((h 13), .inl (cI, 9, .inl (fA a5)))] (fun _ => rfl) [] [(h 0), (h 1), (h 2), (h 3), (h 4), (h 5), (h 6), (h 7), (h 8), (h 9), (h 10), (h 11), (h 12), (h 13)] rfl rfl rfl rfl rfl (by decide) (by decide) 0 rfl rfl rfl (Nat.le_of_ble_eq_true rfl) dX10_removeRule_11 (fun u_11 h_11 => ?_) rfl
  refine j_aload_n EE 0 dX10_removeRule_14 rfl rfl ?_
  refine j_get (T := TX10) EE iw_X10_removeRule_X10 0 rfl rfl 0 (by decide) lk_X10_removeRule_7 rfl dX10_removeRule_15 ?_
  refine j_iconst (v := nI 4) EE dX10_removeRule_18 (by decide) ?_
  refine j_dup2 EE rfl rfl dX10_removeRule_19 ?_
  refine j_iald EE 1 0 rfl rfl (vp_in_nI (n := 4) (by omega) (by decide)) dX10_removeRule_20 ?_
  refine j_topE (congrArg (sA F) (nI_clamp (n := 4) (by omega))) ?_
  refine j_topE (y := nI (F 4)) (sA_n (by omega)) ?_
  refine j_iconst (v := nI 1) EE dX10_removeRule_21 (by decide) ?_
  refine j_isub EE dX10_removeRule_22 ?_
  refine j_topE (pk_sub (a := F 4) (b := 1) (by have := hFb 4; omega)) ?_
  refine j_iast (ws' := [((h 0), .inr (6, [.ref ((h 1)), .ref ((h 2)), .ref ((h 3)), .int (nI (min (km + 1) 6)), .ref ((h 4)), .int (nI le), .int (nI sp), .ref ((h 5)), .ref ((h 6)), .int (nI ro), .ref ((h 7)), .ref ((h 8)), .ref ((h 9)), .ref ((h 10)), .ref ((h 11)), .ref ((h 12)), .ref ((h 13))])), ((h 1), .inl (cI, 99, .inl (sA (updN F 4 ((F 4) - 1))))), ((h 2), .inl (cI, 99, .inl fr)), ((h 3), .inl (cI, 594, .inl (kA (kpQ km Q F)))), ((h 4), .inl (cI, 200, .inl (fun zz => nI (ft zz)))), ((h 5), .inl (cI, 12, .inl (fun zz => nI (B zz)))), ((h 6), .inl (cI, 12, .inl (fun zz => nI (Bt zz)))), ((h 7), .inl (cJ, 16, .inr (.inl W))), ((h 8), .inl (cJ, 16, .inr (.inl M))), ((h 9), .inl (cI, 9, .inl (fun zz => nI (a1 zz)))), ((h 10), .inl (cI, 9, .inl (fun zz => nI (a2 zz)))), ((h 11), .inl (cI, 198, .inl (fun zz => nI (a3 zz)))), ((h 12), .inl (cI, 9, .inl (fun zz => nI (a4 zz)))), ((h 13), .inl (cI, 9, .inl (fA a5)))]) EE 1 0 rfl rfl (vp_in_nI (n := 4) (by omega) (by decide)) (by rw [nI_clamp (by omega), upd_sAn (by omega)]; rfl) dX10_removeRule_23 ?_
  refine j_iconst (v := nI 5) EE dX10_removeRule_24 (by decide) ?_
  refine j_iconst (v := nI 5) EE dX10_removeRule_25 (by decide) ?_
  refine j_iload_n EE 1 dX10_removeRule_26 rfl rfl ?_
  refine j_imul EE dX10_removeRule_27 ?_
  refine j_topE (pk_mul 5 j) ?_
  refine j_iadd EE dX10_removeRule_28 ?_
  refine j_topE (nI_add 5 (5 * j)) ?_
  refine j_istore_n EE [(2, _), (0, _), (1, _)] dX10_removeRule_29 rfl (Nat.lt_of_lt_of_eq (by decide) hL.symm) rfl ?_
  rw [rmF_0 F j]
  exact Lp_30 _ (5 + 5 * j) (Nat.lt_succ_self _) (by omega) (by omega)

end G_41_mod2
