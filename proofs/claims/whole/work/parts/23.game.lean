section G_23_game
variable {l : Launch} {D : va_G} {cI cC cJ cG : ClassId}

theorem b_m1 : ∀ u : Nat, u < 4 → (nI u - nI 1 = (-1) ↔ u = 0) := by decide +kernel
def sAft (S k : Nat) : Nat := if k / 64 % 4 = 0 then (if k / 256 % 4 = 0 then S / 4 else 4 * (S / 4) + (k / 256 % 4 - 1)) else 4 * (if k / 256 % 4 = 0 then S / 4 else 4 * (S / 4) + (k / 256 % 4 - 1)) + (k / 64 % 4 - 1)
def hAft (h k : Nat) : Nat := h - 1 + (if k / 64 % 4 = 0 then 0 else 1) + (if k / 256 % 4 = 0 then 0 else 1)
def rcnt (F : Nat → Nat) (pr : Nat) : Nat → Nat
  | 0 => 0
  | n + 1 => rcnt F pr n + (if F n % 16 = pr then 1 else 0)
theorem rcnt_le (F : Nat → Nat) (pr : Nat) : ∀ n : Nat, rcnt F pr n ≤ n
  | 0 => Nat.le_refl 0
  | n + 1 => by
    have h := rcnt_le F pr n
    unfold rcnt
    split <;> omega
/-- the word upper, lower is one of Y symbols -/
def isW (u v : Int32) (Y : Nat) : Bool := if u = (-1) then decide (v = (-1)) else inR u Y && (decide (v = (-1)) || inR v Y)
def rErr (F : Nat → Nat) (n P Y : Nat) (x0 x1 x2 x3 x4 : Int32) : Int32 := if inR x0 P && inR x1 Y && inR x2 P && isW x3 x4 Y then (if 16 ≤ n ∨ 3 ≤ rcnt F (x0.toNatClampNeg + 4 * x1.toNatClampNeg) n then (-3) else nI 0) else (-1)
def drpN (F : Nat → Nat) (j i : Nat) : Nat → Nat := fun k => if j ≤ k ∧ k + 1 < i then F (k + 1) else F k
theorem drp_0 (F : Nat → Nat) (j : Nat) : drpN F j (j + 1) = F := by
  funext k
  unfold drpN
  rw [if_neg (by omega)]
theorem drp_s (F : Nat → Nat) (j i : Nat) (h : j < i) : updN (drpN F j i) (i - 1) (drpN F j i i) = drpN F j (i + 1) := by
  funext k
  unfold updN drpN
  by_cases h1 : k = i - 1
  · subst h1
    rw [if_pos rfl, if_neg (by omega), if_pos (by omega)]
    congr 1; omega
  · rw [if_neg h1]
    by_cases h2 : j ≤ k ∧ k + 1 < i
    · rw [if_pos h2, if_pos (by omega)]
    · rw [if_neg h2, if_neg (by omega)]
theorem drp_lt {F : Nat → Nat} {j n B : Nat} (hF : ∀ i, F i < B) (i : Nat) : drpN F j n i < B := by
  unfold drpN
  split
  · exact hF _
  · exact hF _

theorem hd_X5_lower : yX5_lower.cls ≠ "java/lang/invoke/MethodHandle" ∧ yX5_lower.cls ≠ "java/lang/invoke/VarHandle" ∧ (parseMethodDescriptor yX5_lower.desc).map (fun d => d.parameters.length) = some 1 := by decide +kernel
theorem hd_X5_upper : yX5_upper.cls ≠ "java/lang/invoke/MethodHandle" ∧ yX5_upper.cls ≠ "java/lang/invoke/VarHandle" ∧ (parseMethodDescriptor yX5_upper.desc).map (fun d => d.parameters.length) = some 1 := by decide +kernel
theorem hd_X7_pushed : yX7_pushed.cls ≠ "java/lang/invoke/MethodHandle" ∧ yX7_pushed.cls ≠ "java/lang/invoke/VarHandle" ∧ (parseMethodDescriptor yX7_pushed.desc).map (fun d => d.parameters.length) = some 2 := by decide +kernel
set_option maxHeartbeats 4000000 in
set_option maxRecDepth 100000 in
theorem c_X7_stackAfter (S k : Nat) (hS : S < 2 ^ 50) (hk : k < 1024) : Ct l yX7_stackAfter wsX7_stackAfter (rmD (1)) D [(cI, .int), (cC, .char), (cJ, .long), (cG, .object "PushdownGameSolver$Game")] [.long (lN S), .int (nI k)] [] (S := Unit) (fun _ => True) (fun _ => some (.long (lN (sAft S k)))) (fun _ => []) := by
  refine Ct.of (lv := [(0, .long (lN S)), (2, .int (nI k))]) (by decide) rfl (Nat.le_of_ble_eq_true rfl) rfl ?_
  intro ε hL EE FF
  refine j_lload_n EE 0 dX7_stackAfter_0 rfl rfl ?_
  refine j_iconst (v := nI 2) EE dX7_stackAfter_1 (by decide) ?_
  refine j_lushr (v := lN (S / 4)) EE (b_shr2 (by omega)) dX7_stackAfter_2 ?_
  refine j_lstore_n EE [(3, _), (0, _), (2, _)] dX7_stackAfter_3 rfl (Nat.lt_of_lt_of_eq (by decide) hL.symm) rfl ?_
  refine j_iload_n EE 2 dX7_stackAfter_4 rfl rfl ?_
  refine j_S EE (c_X5_lower k (by omega)) gX7_stackAfter_X5_lower hd_X5_lower rfl ⟨rfl, rfl⟩ ⟨by decide, by decide⟩ rfl [] rfl (fun _ => rfl) rfl (Nat.le_of_ble_eq_true rfl) dX7_stackAfter_5 (fun u_5 h_5 => ?_) rfl
  show J l _ D ε _ _ _ (.int (nI (k / 256 % 4) - nI 1) :: _)
  refine j_iconst (v := (-1)) EE dX7_stackAfter_8 (by decide) ?_
  refine j_icmp_eq EE 21 dX7_stackAfter_9 (by decide) (fun c9 => ?_) (fun c9 => ?_)
  · skip
    have n9 : k / 256 % 4 = 0 := (b_m1 _ (by omega)).mp c9
    refine j_iload_n EE 2 dX7_stackAfter_21 rfl rfl ?_
    refine j_S EE (c_X5_upper k (by omega)) gX7_stackAfter_X5_upper hd_X5_upper rfl ⟨rfl, rfl⟩ ⟨by decide, by decide⟩ rfl [] rfl (fun _ => rfl) rfl (Nat.le_of_ble_eq_true rfl) dX7_stackAfter_22 (fun u_22 h_22 => ?_) rfl
    show J l _ D ε _ _ _ (.int (nI (k / 64 % 4) - nI 1) :: _)
    refine j_iconst (v := (-1)) EE dX7_stackAfter_25 (by decide) ?_
    refine j_icmp_eq EE 38 dX7_stackAfter_26 (by decide) (fun c26 => ?_) (fun c26 => ?_)
    · skip
      have n26 : k / 64 % 4 = 0 := (b_m1 _ (by omega)).mp c26
      refine j_lload_n EE 0 dX7_stackAfter_38 rfl rfl ?_
      exact j_lret EE FF dX7_stackAfter_39 () trivial (by unfold sAft; simp only [n9, n26, if_true, if_false]) rfl
    · skip
      have n26 : ¬ k / 64 % 4 = 0 := fun hq => c26 ((b_m1 _ (by omega)).mpr hq)
      refine j_lload_n EE 0 dX7_stackAfter_29 rfl rfl ?_
      refine j_iload_n EE 2 dX7_stackAfter_30 rfl rfl ?_
      refine j_S EE (c_X5_upper k (by omega)) gX7_stackAfter_X5_upper hd_X5_upper rfl ⟨rfl, rfl⟩ ⟨by decide, by decide⟩ rfl [] rfl (fun _ => rfl) rfl (Nat.le_of_ble_eq_true rfl) dX7_stackAfter_31 (fun u_31 h_31 => ?_) rfl
      show J l _ D ε _ _ _ (.int (nI (k / 64 % 4) - nI 1) :: _)
      refine j_topE (y := nI (k / 64 % 4 - 1)) (pk_sub (by omega)) ?_
      show J l _ D ε _ _ _ (.int (nI (k / 64 % 4 - 1)) :: _)
      refine j_S EE (c_X7_pushed (S / 4) (k / 64 % 4 - 1) (by omega) (by omega)) gX7_stackAfter_X7_pushed hd_X7_pushed rfl ⟨rfl, rfl⟩ ⟨by decide, by decide⟩ rfl [] rfl (fun _ => rfl) rfl (Nat.le_of_ble_eq_true rfl) dX7_stackAfter_34 (fun u_34 h_34 => ?_) rfl
      show J l _ D ε _ _ _ (.long (lN (4 * (S / 4) + (k / 64 % 4 - 1))) :: _)
      refine j_lstore_n EE [(3, _), (0, _), (2, _)] dX7_stackAfter_37 rfl (Nat.lt_of_lt_of_eq (by decide) hL.symm) rfl ?_
      refine j_lload_n EE 0 dX7_stackAfter_38 rfl rfl ?_
      exact j_lret EE FF dX7_stackAfter_39 () trivial (by unfold sAft; simp only [n9, n26, if_true, if_false]) rfl
  · skip
    have n9 : ¬ k / 256 % 4 = 0 := fun hq => c9 ((b_m1 _ (by omega)).mpr hq)
    refine j_lload_n EE 0 dX7_stackAfter_12 rfl rfl ?_
    refine j_iload_n EE 2 dX7_stackAfter_13 rfl rfl ?_
    refine j_S EE (c_X5_lower k (by omega)) gX7_stackAfter_X5_lower hd_X5_lower rfl ⟨rfl, rfl⟩ ⟨by decide, by decide⟩ rfl [] rfl (fun _ => rfl) rfl (Nat.le_of_ble_eq_true rfl) dX7_stackAfter_14 (fun u_14 h_14 => ?_) rfl
    show J l _ D ε _ _ _ (.int (nI (k / 256 % 4) - nI 1) :: _)
    refine j_topE (y := nI (k / 256 % 4 - 1)) (pk_sub (by omega)) ?_
    show J l _ D ε _ _ _ (.int (nI (k / 256 % 4 - 1)) :: _)
    refine j_S EE (c_X7_pushed (S / 4) (k / 256 % 4 - 1) (by omega) (by omega)) gX7_stackAfter_X7_pushed hd_X7_pushed rfl ⟨rfl, rfl⟩ ⟨by decide, by decide⟩ rfl [] rfl (fun _ => rfl) rfl (Nat.le_of_ble_eq_true rfl) dX7_stackAfter_17 (fun u_17 h_17 => ?_) rfl
    show J l _ D ε _ _ _ (.long (lN (4 * (S / 4) + (k / 256 % 4 - 1))) :: _)
    refine j_lstore_n EE [(3, _), (0, _), (2, _)] dX7_stackAfter_20 rfl (Nat.lt_of_lt_of_eq (by decide) hL.symm) rfl ?_
    refine j_iload_n EE 2 dX7_stackAfter_21 rfl rfl ?_
    refine j_S EE (c_X5_upper k (by omega)) gX7_stackAfter_X5_upper hd_X5_upper rfl ⟨rfl, rfl⟩ ⟨by decide, by decide⟩ rfl [] rfl (fun _ => rfl) rfl (Nat.le_of_ble_eq_true rfl) dX7_stackAfter_22 (fun u_22 h_22 => ?_) rfl
    show J l _ D ε _ _ _ (.int (nI (k / 64 % 4) - nI 1) :: _)
    refine j_iconst (v := (-1)) EE dX7_stackAfter_25 (by decide) ?_
    refine j_icmp_eq EE 38 dX7_stackAfter_26 (by decide) (fun c26 => ?_) (fun c26 => ?_)
    · skip
      have n26 : k / 64 % 4 = 0 := (b_m1 _ (by omega)).mp c26
      refine j_lload_n EE 0 dX7_stackAfter_38 rfl rfl ?_
      exact j_lret EE FF dX7_stackAfter_39 () trivial (by unfold sAft; simp only [n9, n26, if_true, if_false]) rfl
    · skip
      have n26 : ¬ k / 64 % 4 = 0 := fun hq => c26 ((b_m1 _ (by omega)).mpr hq)
      refine j_lload_n EE 0 dX7_stackAfter_29 rfl rfl ?_
      refine j_iload_n EE 2 dX7_stackAfter_30 rfl rfl ?_
      refine j_S EE (c_X5_upper k (by omega)) gX7_stackAfter_X5_upper hd_X5_upper rfl ⟨rfl, rfl⟩ ⟨by decide, by decide⟩ rfl [] rfl (fun _ => rfl) rfl (Nat.le_of_ble_eq_true rfl) dX7_stackAfter_31 (fun u_31 h_31 => ?_) rfl
      show J l _ D ε _ _ _ (.int (nI (k / 64 % 4) - nI 1) :: _)
      refine j_topE (y := nI (k / 64 % 4 - 1)) (pk_sub (by omega)) ?_
      show J l _ D ε _ _ _ (.int (nI (k / 64 % 4 - 1)) :: _)
      refine j_S EE (c_X7_pushed (4 * (S / 4) + (k / 256 % 4 - 1)) (k / 64 % 4 - 1) (by omega) (by omega)) gX7_stackAfter_X7_pushed hd_X7_pushed rfl ⟨rfl, rfl⟩ ⟨by decide, by decide⟩ rfl [] rfl (fun _ => rfl) rfl (Nat.le_of_ble_eq_true rfl) dX7_stackAfter_34 (fun u_34 h_34 => ?_) rfl
      show J l _ D ε _ _ _ (.long (lN (4 * (4 * (S / 4) + (k / 256 % 4 - 1)) + (k / 64 % 4 - 1))) :: _)
      refine j_lstore_n EE [(3, _), (0, _), (2, _)] dX7_stackAfter_37 rfl (Nat.lt_of_lt_of_eq (by decide) hL.symm) rfl ?_
      refine j_lload_n EE 0 dX7_stackAfter_38 rfl rfl ?_
      exact j_lret EE FF dX7_stackAfter_39 () trivial (by unfold sAft; simp only [n9, n26, if_true, if_false]) rfl

set_option maxHeartbeats 4000000 in
set_option maxRecDepth 100000 in
theorem c_X7_heightAfter (h k : Nat) (hh : h < 100) (h1 : 1 ≤ h) (hk : k < 1024) : Ct l yX7_heightAfter wsX7_heightAfter (rmD (1)) D [(cI, .int), (cC, .char), (cJ, .long), (cG, .object "PushdownGameSolver$Game")] [.int (nI h), .int (nI k)] [] (S := Unit) (fun _ => True) (fun _ => some (.int (nI (hAft h k)))) (fun _ => []) := by
  refine Ct.of (lv := [(0, .int (nI h)), (1, .int (nI k))]) (by decide) rfl (Nat.le_of_ble_eq_true rfl) rfl ?_
  intro ε hL EE FF
  refine j_iload_n EE 1 dX7_heightAfter_0 rfl rfl ?_
  refine j_S EE (c_X5_upper k (by omega)) gX7_heightAfter_X5_upper hd_X5_upper rfl ⟨rfl, rfl⟩ ⟨by decide, by decide⟩ rfl [] rfl (fun _ => rfl) rfl (Nat.le_of_ble_eq_true rfl) dX7_heightAfter_1 (fun u_1 h_1 => ?_) rfl
  show J l _ D ε _ _ _ (.int (nI (k / 64 % 4) - nI 1) :: _)
  refine j_iconst (v := (-1)) EE dX7_heightAfter_4 (by decide) ?_
  refine j_icmp_ne EE 12 dX7_heightAfter_5 (by decide) (fun c5 => ?_) (fun c5 => ?_)
  · skip
    have n5 : ¬ k / 64 % 4 = 0 := fun hq => c5 ((b_m1 _ (by omega)).mpr hq)
    refine j_iconst (v := nI 1) EE dX7_heightAfter_12 (by decide) ?_
    refine j_istore_n EE [(2, _), (0, _), (1, _)] dX7_heightAfter_13 rfl (Nat.lt_of_lt_of_eq (by decide) hL.symm) rfl ?_
    refine j_iload_n EE 2 dX7_heightAfter_14 rfl rfl ?_
    refine j_S EE (c_X5_lower k (by omega)) gX7_heightAfter_X5_lower hd_X5_lower rfl ⟨rfl, rfl⟩ ⟨by decide, by decide⟩ rfl [] rfl (fun _ => rfl) rfl (Nat.le_of_ble_eq_true rfl) dX7_heightAfter_15 (fun u_15 h_15 => ?_) rfl
    show J l _ D ε _ _ _ (.int (nI (k / 256 % 4) - nI 1) :: _)
    refine j_iconst (v := (-1)) EE dX7_heightAfter_18 (by decide) ?_
    refine j_icmp_ne EE 26 dX7_heightAfter_19 (by decide) (fun c19 => ?_) (fun c19 => ?_)
    · skip
      have n19 : ¬ k / 256 % 4 = 0 := fun hq => c19 ((b_m1 _ (by omega)).mpr hq)
      refine j_iconst (v := nI 1) EE dX7_heightAfter_26 (by decide) ?_
      refine j_istore_n EE [(3, _), (2, _), (0, _), (1, _)] dX7_heightAfter_27 rfl (Nat.lt_of_lt_of_eq (by decide) hL.symm) rfl ?_
      refine j_iload_n EE 2 dX7_heightAfter_28 rfl rfl ?_
      refine j_iconst (v := nI 1) EE dX7_heightAfter_29 (by decide) ?_
      refine j_isub EE dX7_heightAfter_30 ?_
      refine j_topE (pk_sub (a := h) (b := 1) (by omega)) ?_
      refine j_iload_n EE 1 dX7_heightAfter_31 rfl rfl ?_
      refine j_iadd EE dX7_heightAfter_32 ?_
      refine j_topE (nI_add (h - 1) 1) ?_
      refine j_iload_n EE 0 dX7_heightAfter_33 rfl rfl ?_
      refine j_iadd EE dX7_heightAfter_34 ?_
      refine j_topE (nI_add ((h - 1) + 1) 1) ?_
      exact j_iret EE FF dX7_heightAfter_35 () trivial (by unfold hAft; simp only [n5, n19, if_true, if_false]) rfl
    · skip
      have n19 : k / 256 % 4 = 0 := (b_m1 _ (by omega)).mp c19
      refine j_iconst (v := nI 0) EE dX7_heightAfter_22 (by decide) ?_
      refine j_goto EE 27 dX7_heightAfter_23 (by decide) ?_
      refine j_istore_n EE [(3, _), (2, _), (0, _), (1, _)] dX7_heightAfter_27 rfl (Nat.lt_of_lt_of_eq (by decide) hL.symm) rfl ?_
      refine j_iload_n EE 2 dX7_heightAfter_28 rfl rfl ?_
      refine j_iconst (v := nI 1) EE dX7_heightAfter_29 (by decide) ?_
      refine j_isub EE dX7_heightAfter_30 ?_
      refine j_topE (pk_sub (a := h) (b := 1) (by omega)) ?_
      refine j_iload_n EE 1 dX7_heightAfter_31 rfl rfl ?_
      refine j_iadd EE dX7_heightAfter_32 ?_
      refine j_topE (nI_add (h - 1) 1) ?_
      refine j_iload_n EE 0 dX7_heightAfter_33 rfl rfl ?_
      refine j_iadd EE dX7_heightAfter_34 ?_
      refine j_topE (nI_add ((h - 1) + 1) 0) ?_
      exact j_iret EE FF dX7_heightAfter_35 () trivial (by unfold hAft; simp only [n5, n19, if_true, if_false]) rfl
  · skip
    have n5 : k / 64 % 4 = 0 := (b_m1 _ (by omega)).mp c5
    refine j_iconst (v := nI 0) EE dX7_heightAfter_8 (by decide) ?_
    refine j_goto EE 13 dX7_heightAfter_9 (by decide) ?_
    refine j_istore_n EE [(2, _), (0, _), (1, _)] dX7_heightAfter_13 rfl (Nat.lt_of_lt_of_eq (by decide) hL.symm) rfl ?_
    refine j_iload_n EE 2 dX7_heightAfter_14 rfl rfl ?_
    refine j_S EE (c_X5_lower k (by omega)) gX7_heightAfter_X5_lower hd_X5_lower rfl ⟨rfl, rfl⟩ ⟨by decide, by decide⟩ rfl [] rfl (fun _ => rfl) rfl (Nat.le_of_ble_eq_true rfl) dX7_heightAfter_15 (fun u_15 h_15 => ?_) rfl
    show J l _ D ε _ _ _ (.int (nI (k / 256 % 4) - nI 1) :: _)
    refine j_iconst (v := (-1)) EE dX7_heightAfter_18 (by decide) ?_
    refine j_icmp_ne EE 26 dX7_heightAfter_19 (by decide) (fun c19 => ?_) (fun c19 => ?_)
    · skip
      have n19 : ¬ k / 256 % 4 = 0 := fun hq => c19 ((b_m1 _ (by omega)).mpr hq)
      refine j_iconst (v := nI 1) EE dX7_heightAfter_26 (by decide) ?_
      refine j_istore_n EE [(3, _), (2, _), (0, _), (1, _)] dX7_heightAfter_27 rfl (Nat.lt_of_lt_of_eq (by decide) hL.symm) rfl ?_
      refine j_iload_n EE 2 dX7_heightAfter_28 rfl rfl ?_
      refine j_iconst (v := nI 1) EE dX7_heightAfter_29 (by decide) ?_
      refine j_isub EE dX7_heightAfter_30 ?_
      refine j_topE (pk_sub (a := h) (b := 1) (by omega)) ?_
      refine j_iload_n EE 1 dX7_heightAfter_31 rfl rfl ?_
      refine j_iadd EE dX7_heightAfter_32 ?_
      refine j_topE (nI_add (h - 1) 0) ?_
      refine j_iload_n EE 0 dX7_heightAfter_33 rfl rfl ?_
      refine j_iadd EE dX7_heightAfter_34 ?_
      refine j_topE (nI_add ((h - 1) + 0) 1) ?_
      exact j_iret EE FF dX7_heightAfter_35 () trivial (by unfold hAft; simp only [n5, n19, if_true, if_false]) rfl
    · skip
      have n19 : k / 256 % 4 = 0 := (b_m1 _ (by omega)).mp c19
      refine j_iconst (v := nI 0) EE dX7_heightAfter_22 (by decide) ?_
      refine j_goto EE 27 dX7_heightAfter_23 (by decide) ?_
      refine j_istore_n EE [(3, _), (2, _), (0, _), (1, _)] dX7_heightAfter_27 rfl (Nat.lt_of_lt_of_eq (by decide) hL.symm) rfl ?_
      refine j_iload_n EE 2 dX7_heightAfter_28 rfl rfl ?_
      refine j_iconst (v := nI 1) EE dX7_heightAfter_29 (by decide) ?_
      refine j_isub EE dX7_heightAfter_30 ?_
      refine j_topE (pk_sub (a := h) (b := 1) (by omega)) ?_
      refine j_iload_n EE 1 dX7_heightAfter_31 rfl rfl ?_
      refine j_iadd EE dX7_heightAfter_32 ?_
      refine j_topE (nI_add (h - 1) 0) ?_
      refine j_iload_n EE 0 dX7_heightAfter_33 rfl rfl ?_
      refine j_iadd EE dX7_heightAfter_34 ?_
      refine j_topE (nI_add ((h - 1) + 0) 0) ?_
      exact j_iret EE FF dX7_heightAfter_35 () trivial (by unfold hAft; simp only [n5, n19, if_true, if_false]) rfl

theorem iw_X1_moveTo_X1 : ∀ w ∈ wsX10, w ∈ wsX1_moveTo := fun _ h => List.mem_cons_of_mem _ (List.mem_append_right _ h)
theorem lk_X1_moveTo_41 : Cond.fieldLink RX1 41 (TX1 6).1 (TX1 6).2.1 (TX1 6).2.2.1 ∈ wsX1_moveTo := List.mem_of_getElem? (i := 1) rfl
theorem lk_X1_moveTo_44 : Cond.fieldLink RX1 44 (TX1 7).1 (TX1 7).2.1 (TX1 7).2.2.1 ∈ wsX1_moveTo := List.mem_of_getElem? (i := 2) rfl
theorem lk_X1_moveTo_48 : Cond.fieldLink RX1 48 (TX1 8).1 (TX1 8).2.1 (TX1 8).2.2.1 ∈ wsX1_moveTo := List.mem_of_getElem? (i := 3) rfl
set_option maxHeartbeats 4000000 in
set_option maxRecDepth 100000 in
theorem c_X1_moveTo (a r P Y o t n q S h : Nat) (F : Nat → Nat) (x1 x3 : Nat) (x2 : Nat) : Ct l yX1_moveTo wsX1_moveTo (rmD (0)) D [(cI, .int), (cC, .char), (cJ, .long), (cG, .object "PushdownGameSolver$Game")] [.ref (a), .int (nI x1), .long (lN x2), .int (nI x3)] [(a, .inr (1, [.int (nI P), .int (nI Y), .int (nI o), .int (nI t), .int (nI n), .ref (r), .int (nI q), .long (lN S), .int (nI h)])), (r, .inl (cI, 16, .inl (fun zz => nI (F zz))))] (S := Unit) (fun _ => True) (fun _ => none) (fun _ => [(a, .inr (1, [.int (nI P), .int (nI Y), .int (nI o), .int (nI t), .int (nI n), .ref (r), .int (nI x1), .long (lN x2), .int (nI x3)])), (r, .inl (cI, 16, .inl (fun zz => nI (F zz))))]) := by
  refine Ct.of (lv := [(0, .ref (a)), (1, .int (nI x1)), (2, .long (lN x2)), (4, .int (nI x3))]) (by decide) rfl (Nat.le_of_ble_eq_true rfl) rfl ?_
  intro ε hL EE FF
  refine j_aload_n EE 0 dX1_moveTo_0 rfl rfl ?_
  refine j_iload_n EE 1 dX1_moveTo_1 rfl rfl ?_
  refine j_put (T := TX1) (ws' := [(a, .inr (1, [.int (nI P), .int (nI Y), .int (nI o), .int (nI t), .int (nI n), .ref (r), .int (nI x1), .long (lN S), .int (nI h)])), (r, .inl (cI, 16, .inl (fun zz => nI (F zz))))]) EE iw_X1_moveTo_X1 tyX1 tyX1_ok nmX1 0 rfl rfl 6 (by decide) lk_X1_moveTo_41 rfl rfl rfl (Nat.le_of_ble_eq_true rfl) rfl dX1_moveTo_2 ?_
  refine j_aload_n EE 0 dX1_moveTo_5 rfl rfl ?_
  refine j_lload_n EE 2 dX1_moveTo_6 rfl rfl ?_
  refine j_put (T := TX1) (ws' := [(a, .inr (1, [.int (nI P), .int (nI Y), .int (nI o), .int (nI t), .int (nI n), .ref (r), .int (nI x1), .long (lN x2), .int (nI h)])), (r, .inl (cI, 16, .inl (fun zz => nI (F zz))))]) EE iw_X1_moveTo_X1 tyX1 tyX1_ok nmX1 0 rfl rfl 7 (by decide) lk_X1_moveTo_44 rfl rfl rfl (Nat.le_of_ble_eq_true rfl) rfl dX1_moveTo_7 ?_
  refine j_aload_n EE 0 dX1_moveTo_10 rfl rfl ?_
  refine j_iload EE 3 dX1_moveTo_11 rfl ?_
  refine j_put (T := TX1) (ws' := [(a, .inr (1, [.int (nI P), .int (nI Y), .int (nI o), .int (nI t), .int (nI n), .ref (r), .int (nI x1), .long (lN x2), .int (nI x3)])), (r, .inl (cI, 16, .inl (fun zz => nI (F zz))))]) EE iw_X1_moveTo_X1 tyX1 tyX1_ok nmX1 0 rfl rfl 8 (by decide) lk_X1_moveTo_48 rfl rfl rfl (Nat.le_of_ble_eq_true rfl) rfl dX1_moveTo_13 ?_
  exact j_vret EE FF dX1_moveTo_16 () trivial rfl rfl

theorem iw_X1_start_X1 : ∀ w ∈ wsX10, w ∈ wsX1_start := fun _ h => List.mem_cons_of_mem _ (List.mem_append_right _ h)
theorem lk_X1_start_15 : Cond.fieldLink RX1 15 (TX1 0).1 (TX1 0).2.1 (TX1 0).2.2.1 ∈ wsX1_start := List.mem_of_getElem? (i := 1) rfl
theorem lk_X1_start_19 : Cond.fieldLink RX1 19 (TX1 1).1 (TX1 1).2.1 (TX1 1).2.2.1 ∈ wsX1_start := List.mem_of_getElem? (i := 2) rfl
theorem lk_X1_start_22 : Cond.fieldLink RX1 22 (TX1 2).1 (TX1 2).2.1 (TX1 2).2.2.1 ∈ wsX1_start := List.mem_of_getElem? (i := 3) rfl
theorem lk_X1_start_25 : Cond.fieldLink RX1 25 (TX1 3).1 (TX1 3).2.1 (TX1 3).2.2.1 ∈ wsX1_start := List.mem_of_getElem? (i := 4) rfl
theorem lk_X1_start_28 : Cond.fieldLink RX1 28 (TX1 4).1 (TX1 4).2.1 (TX1 4).2.2.1 ∈ wsX1_start := List.mem_of_getElem? (i := 5) rfl
theorem hd_X1_moveTo : yX1_moveTo.cls ≠ "java/lang/invoke/MethodHandle" ∧ yX1_moveTo.cls ≠ "java/lang/invoke/VarHandle" ∧ (parseMethodDescriptor yX1_moveTo.desc).map (fun d => d.parameters.length) = some 3 := by decide +kernel
set_option maxHeartbeats 4000000 in
set_option maxRecDepth 100000 in
theorem c_X1_start (a r P Y o t n q S h : Nat) (F : Nat → Nat) : Ct l yX1_start wsX1_start (rmD (1)) D [(cI, .int), (cC, .char), (cJ, .long), (cG, .object "PushdownGameSolver$Game")] [.ref (a)] [(a, .inr (1, [.int (nI P), .int (nI Y), .int (nI o), .int (nI t), .int (nI n), .ref (r), .int (nI q), .long (lN S), .int (nI h)])), (r, .inl (cI, 16, .inl (fun zz => nI (F zz))))] (S := Unit) (fun _ => True) (fun _ => none) (fun _ => [(a, .inr (1, [.int (nI 0), .int (nI 0), .int (nI 0), .int (nI 0), .int (nI 0), .ref (r), .int (nI 0), .long (lN 0), .int (nI 1)])), (r, .inl (cI, 16, .inl (fun zz => nI (F zz))))]) := by
  refine Ct.of (lv := [(0, .ref (a))]) (by decide) rfl (Nat.le_of_ble_eq_true rfl) rfl ?_
  intro ε hL EE FF
  refine j_aload_n EE 0 dX1_start_0 rfl rfl ?_
  refine j_iconst (v := nI 0) EE dX1_start_1 (by decide) ?_
  refine j_put (T := TX1) (ws' := [(a, .inr (1, [.int (nI 0), .int (nI Y), .int (nI o), .int (nI t), .int (nI n), .ref (r), .int (nI q), .long (lN S), .int (nI h)])), (r, .inl (cI, 16, .inl (fun zz => nI (F zz))))]) EE iw_X1_start_X1 tyX1 tyX1_ok nmX1 0 rfl rfl 0 (by decide) lk_X1_start_15 rfl rfl rfl (Nat.le_of_ble_eq_true rfl) rfl dX1_start_2 ?_
  refine j_aload_n EE 0 dX1_start_5 rfl rfl ?_
  refine j_iconst (v := nI 0) EE dX1_start_6 (by decide) ?_
  refine j_put (T := TX1) (ws' := [(a, .inr (1, [.int (nI 0), .int (nI 0), .int (nI o), .int (nI t), .int (nI n), .ref (r), .int (nI q), .long (lN S), .int (nI h)])), (r, .inl (cI, 16, .inl (fun zz => nI (F zz))))]) EE iw_X1_start_X1 tyX1 tyX1_ok nmX1 0 rfl rfl 1 (by decide) lk_X1_start_19 rfl rfl rfl (Nat.le_of_ble_eq_true rfl) rfl dX1_start_7 ?_
  refine j_aload_n EE 0 dX1_start_10 rfl rfl ?_
  refine j_iconst (v := nI 0) EE dX1_start_11 (by decide) ?_
  refine j_put (T := TX1) (ws' := [(a, .inr (1, [.int (nI 0), .int (nI 0), .int (nI 0), .int (nI t), .int (nI n), .ref (r), .int (nI q), .long (lN S), .int (nI h)])), (r, .inl (cI, 16, .inl (fun zz => nI (F zz))))]) EE iw_X1_start_X1 tyX1 tyX1_ok nmX1 0 rfl rfl 2 (by decide) lk_X1_start_22 rfl rfl rfl (Nat.le_of_ble_eq_true rfl) rfl dX1_start_12 ?_
  refine j_aload_n EE 0 dX1_start_15 rfl rfl ?_
  refine j_iconst (v := nI 0) EE dX1_start_16 (by decide) ?_
  refine j_put (T := TX1) (ws' := [(a, .inr (1, [.int (nI 0), .int (nI 0), .int (nI 0), .int (nI 0), .int (nI n), .ref (r), .int (nI q), .long (lN S), .int (nI h)])), (r, .inl (cI, 16, .inl (fun zz => nI (F zz))))]) EE iw_X1_start_X1 tyX1 tyX1_ok nmX1 0 rfl rfl 3 (by decide) lk_X1_start_25 rfl rfl rfl (Nat.le_of_ble_eq_true rfl) rfl dX1_start_17 ?_
  refine j_aload_n EE 0 dX1_start_20 rfl rfl ?_
  refine j_iconst (v := nI 0) EE dX1_start_21 (by decide) ?_
  refine j_put (T := TX1) (ws' := [(a, .inr (1, [.int (nI 0), .int (nI 0), .int (nI 0), .int (nI 0), .int (nI 0), .ref (r), .int (nI q), .long (lN S), .int (nI h)])), (r, .inl (cI, 16, .inl (fun zz => nI (F zz))))]) EE iw_X1_start_X1 tyX1 tyX1_ok nmX1 0 rfl rfl 4 (by decide) lk_X1_start_28 rfl rfl rfl (Nat.le_of_ble_eq_true rfl) rfl dX1_start_22 ?_
  refine j_aload_n EE 0 dX1_start_25 rfl rfl ?_
  refine j_iconst (v := nI 0) EE dX1_start_26 (by decide) ?_
  refine j_lconst (v := lN 0) EE dX1_start_27 (by decide) ?_
  refine j_iconst (v := nI 1) EE dX1_start_28 (by decide) ?_
  refine j_V2 (n9 := 2) EE (c_X1_moveTo a r 0 0 0 0 0 q S h F 0 1 0) gX1_start_X1_moveTo ⟨rfl, hd_X1_moveTo⟩ rfl ⟨rfl, rfl⟩ ⟨by decide, by decide⟩ rfl [0, 1] rfl [] [(a, .inr (1, [.int (nI 0), .int (nI 0), .int (nI 0), .int (nI 0), .int (nI 0), .ref (r), .int (nI 0), .long (lN 0), .int (nI 1)])), (r, .inl (cI, 16, .inl (fun zz => nI (F zz))))] (fun _ => rfl) [] [a, r] rfl rfl rfl rfl rfl (by decide) (by decide) 0 rfl rfl rfl (Nat.le_of_ble_eq_true rfl) dX1_start_29 (fun u_29 h_29 => ?_) rfl
  exact j_vret EE FF dX1_start_32 () trivial rfl rfl

theorem iw_X1_copyFrom_X1 : ∀ w ∈ wsX10, w ∈ wsX1_copyFrom := fun _ h => List.mem_cons_of_mem _ (List.mem_append_right _ h)
theorem lk_X1_copyFrom_15 : Cond.fieldLink RX1 15 (TX1 0).1 (TX1 0).2.1 (TX1 0).2.2.1 ∈ wsX1_copyFrom := List.mem_of_getElem? (i := 1) rfl
theorem lk_X1_copyFrom_19 : Cond.fieldLink RX1 19 (TX1 1).1 (TX1 1).2.1 (TX1 1).2.2.1 ∈ wsX1_copyFrom := List.mem_of_getElem? (i := 2) rfl
theorem lk_X1_copyFrom_22 : Cond.fieldLink RX1 22 (TX1 2).1 (TX1 2).2.1 (TX1 2).2.2.1 ∈ wsX1_copyFrom := List.mem_of_getElem? (i := 3) rfl
theorem lk_X1_copyFrom_25 : Cond.fieldLink RX1 25 (TX1 3).1 (TX1 3).2.1 (TX1 3).2.2.1 ∈ wsX1_copyFrom := List.mem_of_getElem? (i := 4) rfl
theorem lk_X1_copyFrom_28 : Cond.fieldLink RX1 28 (TX1 4).1 (TX1 4).2.1 (TX1 4).2.2.1 ∈ wsX1_copyFrom := List.mem_of_getElem? (i := 5) rfl
theorem lk_X1_copyFrom_11 : Cond.fieldLink RX1 11 (TX1 5).1 (TX1 5).2.1 (TX1 5).2.2.1 ∈ wsX1_copyFrom := List.mem_of_getElem? (i := 6) rfl
theorem mw_X1_copyFrom_ac35 : Cond.methodLink RX1 35 arraycopyName ∈ wsX1_copyFrom := List.mem_of_getElem? (i := 7) rfl
theorem mw_X1_copyFrom_acn : Cond.native arraycopyName ∈ wsX1_copyFrom := List.mem_of_getElem? (i := 8) rfl
theorem mw_X1_copyFrom_acs : Cond.static arraycopyName ∈ wsX1_copyFrom := List.mem_of_getElem? (i := 9) rfl
theorem mw_X1_copyFrom_aci : Cond.initialized "java/lang/System" ∈ wsX1_copyFrom := List.mem_of_getElem? (i := 10) rfl
theorem lk_X1_copyFrom_41 : Cond.fieldLink RX1 41 (TX1 6).1 (TX1 6).2.1 (TX1 6).2.2.1 ∈ wsX1_copyFrom := List.mem_of_getElem? (i := 11) rfl
theorem lk_X1_copyFrom_44 : Cond.fieldLink RX1 44 (TX1 7).1 (TX1 7).2.1 (TX1 7).2.2.1 ∈ wsX1_copyFrom := List.mem_of_getElem? (i := 12) rfl
theorem lk_X1_copyFrom_48 : Cond.fieldLink RX1 48 (TX1 8).1 (TX1 8).2.1 (TX1 8).2.2.1 ∈ wsX1_copyFrom := List.mem_of_getElem? (i := 13) rfl
set_option maxHeartbeats 4000000 in
set_option maxRecDepth 100000 in
theorem c_X1_copyFrom (a r P Y o t n q S h : Nat) (F : Nat → Nat) (b rb P2 Y2 o2 t2 n2 q2 S2 h2 : Nat) (F2 : Nat → Nat) : Ct l yX1_copyFrom wsX1_copyFrom (rmD (1)) D [(cI, .int), (cC, .char), (cJ, .long), (cG, .object "PushdownGameSolver$Game")] [.ref (a), .ref (b)] [(a, .inr (1, [.int (nI P), .int (nI Y), .int (nI o), .int (nI t), .int (nI n), .ref (r), .int (nI q), .long (lN S), .int (nI h)])), (r, .inl (cI, 16, .inl (fun zz => nI (F zz)))), (b, .inr (1, [.int (nI P2), .int (nI Y2), .int (nI o2), .int (nI t2), .int (nI n2), .ref (rb), .int (nI q2), .long (lN S2), .int (nI h2)])), (rb, .inl (cI, 16, .inl (fun zz => nI (F2 zz))))] (S := Unit) (fun _ => True) (fun _ => none) (fun _ => [(a, .inr (1, [.int (nI P2), .int (nI Y2), .int (nI o2), .int (nI t2), .int (nI n2), .ref (r), .int (nI q2), .long (lN S2), .int (nI h2)])), (r, .inl (cI, 16, .inl (fun zz => nI (cpyN F2 F 16 zz)))), (b, .inr (1, [.int (nI P2), .int (nI Y2), .int (nI o2), .int (nI t2), .int (nI n2), .ref (rb), .int (nI q2), .long (lN S2), .int (nI h2)])), (rb, .inl (cI, 16, .inl (fun zz => nI (F2 zz))))]) := by
  refine Ct.of (lv := [(0, .ref (a)), (1, .ref (b))]) (by decide) rfl (Nat.le_of_ble_eq_true rfl) rfl ?_
  intro ε hL EE FF
  refine j_aload_n EE 0 dX1_copyFrom_0 rfl rfl ?_
  refine j_aload_n EE 1 dX1_copyFrom_1 rfl rfl ?_
  refine j_get (T := TX1) EE iw_X1_copyFrom_X1 2 rfl rfl 0 (by decide) lk_X1_copyFrom_15 rfl dX1_copyFrom_2 ?_
  refine j_put (T := TX1) (ws' := [(a, .inr (1, [.int (nI P2), .int (nI Y), .int (nI o), .int (nI t), .int (nI n), .ref (r), .int (nI q), .long (lN S), .int (nI h)])), (r, .inl (cI, 16, .inl (fun zz => nI (F zz)))), (b, .inr (1, [.int (nI P2), .int (nI Y2), .int (nI o2), .int (nI t2), .int (nI n2), .ref (rb), .int (nI q2), .long (lN S2), .int (nI h2)])), (rb, .inl (cI, 16, .inl (fun zz => nI (F2 zz))))]) EE iw_X1_copyFrom_X1 tyX1 tyX1_ok nmX1 0 rfl rfl 0 (by decide) lk_X1_copyFrom_15 rfl rfl rfl (Nat.le_of_ble_eq_true rfl) rfl dX1_copyFrom_5 ?_
  refine j_aload_n EE 0 dX1_copyFrom_8 rfl rfl ?_
  refine j_aload_n EE 1 dX1_copyFrom_9 rfl rfl ?_
  refine j_get (T := TX1) EE iw_X1_copyFrom_X1 2 rfl rfl 1 (by decide) lk_X1_copyFrom_19 rfl dX1_copyFrom_10 ?_
  refine j_put (T := TX1) (ws' := [(a, .inr (1, [.int (nI P2), .int (nI Y2), .int (nI o), .int (nI t), .int (nI n), .ref (r), .int (nI q), .long (lN S), .int (nI h)])), (r, .inl (cI, 16, .inl (fun zz => nI (F zz)))), (b, .inr (1, [.int (nI P2), .int (nI Y2), .int (nI o2), .int (nI t2), .int (nI n2), .ref (rb), .int (nI q2), .long (lN S2), .int (nI h2)])), (rb, .inl (cI, 16, .inl (fun zz => nI (F2 zz))))]) EE iw_X1_copyFrom_X1 tyX1 tyX1_ok nmX1 0 rfl rfl 1 (by decide) lk_X1_copyFrom_19 rfl rfl rfl (Nat.le_of_ble_eq_true rfl) rfl dX1_copyFrom_13 ?_
  refine j_aload_n EE 0 dX1_copyFrom_16 rfl rfl ?_
  refine j_aload_n EE 1 dX1_copyFrom_17 rfl rfl ?_
  refine j_get (T := TX1) EE iw_X1_copyFrom_X1 2 rfl rfl 2 (by decide) lk_X1_copyFrom_22 rfl dX1_copyFrom_18 ?_
  refine j_put (T := TX1) (ws' := [(a, .inr (1, [.int (nI P2), .int (nI Y2), .int (nI o2), .int (nI t), .int (nI n), .ref (r), .int (nI q), .long (lN S), .int (nI h)])), (r, .inl (cI, 16, .inl (fun zz => nI (F zz)))), (b, .inr (1, [.int (nI P2), .int (nI Y2), .int (nI o2), .int (nI t2), .int (nI n2), .ref (rb), .int (nI q2), .long (lN S2), .int (nI h2)])), (rb, .inl (cI, 16, .inl (fun zz => nI (F2 zz))))]) EE iw_X1_copyFrom_X1 tyX1 tyX1_ok nmX1 0 rfl rfl 2 (by decide) lk_X1_copyFrom_22 rfl rfl rfl (Nat.le_of_ble_eq_true rfl) rfl dX1_copyFrom_21 ?_
  refine j_aload_n EE 0 dX1_copyFrom_24 rfl rfl ?_
  refine j_aload_n EE 1 dX1_copyFrom_25 rfl rfl ?_
  refine j_get (T := TX1) EE iw_X1_copyFrom_X1 2 rfl rfl 3 (by decide) lk_X1_copyFrom_25 rfl dX1_copyFrom_26 ?_
  refine j_put (T := TX1) (ws' := [(a, .inr (1, [.int (nI P2), .int (nI Y2), .int (nI o2), .int (nI t2), .int (nI n), .ref (r), .int (nI q), .long (lN S), .int (nI h)])), (r, .inl (cI, 16, .inl (fun zz => nI (F zz)))), (b, .inr (1, [.int (nI P2), .int (nI Y2), .int (nI o2), .int (nI t2), .int (nI n2), .ref (rb), .int (nI q2), .long (lN S2), .int (nI h2)])), (rb, .inl (cI, 16, .inl (fun zz => nI (F2 zz))))]) EE iw_X1_copyFrom_X1 tyX1 tyX1_ok nmX1 0 rfl rfl 3 (by decide) lk_X1_copyFrom_25 rfl rfl rfl (Nat.le_of_ble_eq_true rfl) rfl dX1_copyFrom_29 ?_
  refine j_aload_n EE 0 dX1_copyFrom_32 rfl rfl ?_
  refine j_aload_n EE 1 dX1_copyFrom_33 rfl rfl ?_
  refine j_get (T := TX1) EE iw_X1_copyFrom_X1 2 rfl rfl 4 (by decide) lk_X1_copyFrom_28 rfl dX1_copyFrom_34 ?_
  refine j_put (T := TX1) (ws' := [(a, .inr (1, [.int (nI P2), .int (nI Y2), .int (nI o2), .int (nI t2), .int (nI n2), .ref (r), .int (nI q), .long (lN S), .int (nI h)])), (r, .inl (cI, 16, .inl (fun zz => nI (F zz)))), (b, .inr (1, [.int (nI P2), .int (nI Y2), .int (nI o2), .int (nI t2), .int (nI n2), .ref (rb), .int (nI q2), .long (lN S2), .int (nI h2)])), (rb, .inl (cI, 16, .inl (fun zz => nI (F2 zz))))]) EE iw_X1_copyFrom_X1 tyX1 tyX1_ok nmX1 0 rfl rfl 4 (by decide) lk_X1_copyFrom_28 rfl rfl rfl (Nat.le_of_ble_eq_true rfl) rfl dX1_copyFrom_37 ?_
  refine j_aload_n EE 1 dX1_copyFrom_40 rfl rfl ?_
  refine j_get (T := TX1) EE iw_X1_copyFrom_X1 2 rfl rfl 5 (by decide) lk_X1_copyFrom_11 rfl dX1_copyFrom_41 ?_
  refine j_iconst (v := nI 0) EE dX1_copyFrom_44 (by decide) ?_
  refine j_aload_n EE 0 dX1_copyFrom_45 rfl rfl ?_
  refine j_get (T := TX1) EE iw_X1_copyFrom_X1 0 rfl rfl 5 (by decide) lk_X1_copyFrom_11 rfl dX1_copyFrom_46 ?_
  refine j_iconst (v := nI 0) EE dX1_copyFrom_49 (by decide) ?_
  refine j_bipush (v := nI 16) EE dX1_copyFrom_50 (by decide) ?_
  refine j_copyi (ws' := [(a, .inr (1, [.int (nI P2), .int (nI Y2), .int (nI o2), .int (nI t2), .int (nI n2), .ref (r), .int (nI q), .long (lN S), .int (nI h)])), (r, .inl (cI, 16, .inl (fun zz => nI ((cpyN F2 F 16) zz)))), (b, .inr (1, [.int (nI P2), .int (nI Y2), .int (nI o2), .int (nI t2), .int (nI n2), .ref (rb), .int (nI q2), .long (lN S2), .int (nI h2)])), (rb, .inl (cI, 16, .inl (fun zz => nI (F2 zz))))]) EE mw_X1_copyFrom_ac35 mw_X1_copyFrom_acn mw_X1_copyFrom_acs mw_X1_copyFrom_aci 3 1 0 0 rfl rfl rfl rfl rfl (by decide) (by decide) (by decide) (by decide) (by decide) (fun _ _ => rfl) (by decide) (Nat.le_of_ble_eq_true rfl) (by rw [cpy_N F2 F 16 (nI 16) rfl (nI 0) (nI 0) rfl rfl]; rfl) dX1_copyFrom_52 ?_
  refine j_aload_n EE 0 dX1_copyFrom_55 rfl rfl ?_
  refine j_aload_n EE 1 dX1_copyFrom_56 rfl rfl ?_
  refine j_get (T := TX1) EE iw_X1_copyFrom_X1 2 rfl rfl 6 (by decide) lk_X1_copyFrom_41 rfl dX1_copyFrom_57 ?_
  refine j_aload_n EE 1 dX1_copyFrom_60 rfl rfl ?_
  refine j_get (T := TX1) EE iw_X1_copyFrom_X1 2 rfl rfl 7 (by decide) lk_X1_copyFrom_44 rfl dX1_copyFrom_61 ?_
  refine j_aload_n EE 1 dX1_copyFrom_64 rfl rfl ?_
  refine j_get (T := TX1) EE iw_X1_copyFrom_X1 2 rfl rfl 8 (by decide) lk_X1_copyFrom_48 rfl dX1_copyFrom_65 ?_
  refine j_V2 (n9 := 4) EE (c_X1_moveTo a r P2 Y2 o2 t2 n2 q S h (cpyN F2 F 16) q2 h2 S2) gX1_copyFrom_X1_moveTo ⟨rfl, hd_X1_moveTo⟩ rfl ⟨rfl, rfl⟩ ⟨by decide, by decide⟩ rfl [0, 1] rfl [2, 3] [(a, .inr (1, [.int (nI P2), .int (nI Y2), .int (nI o2), .int (nI t2), .int (nI n2), .ref (r), .int (nI q2), .long (lN S2), .int (nI h2)])), (r, .inl (cI, 16, .inl (fun zz => nI ((cpyN F2 F 16) zz)))), (b, .inr (1, [.int (nI P2), .int (nI Y2), .int (nI o2), .int (nI t2), .int (nI n2), .ref (rb), .int (nI q2), .long (lN S2), .int (nI h2)])), (rb, .inl (cI, 16, .inl (fun zz => nI (F2 zz))))] (fun _ => rfl) [(b, .inr (1, [.int (nI P2), .int (nI Y2), .int (nI o2), .int (nI t2), .int (nI n2), .ref (rb), .int (nI q2), .long (lN S2), .int (nI h2)])), (rb, .inl (cI, 16, .inl (fun zz => nI (F2 zz))))] [a, r, b, rb] rfl rfl rfl rfl rfl (by decide) (by decide) 0 rfl rfl rfl (Nat.le_of_ble_eq_true rfl) dX1_copyFrom_68 (fun u_68 h_68 => ?_) rfl
  exact j_vret EE FF dX1_copyFrom_71 () trivial rfl rfl

theorem iw_X1_hasState_X1 : ∀ w ∈ wsX10, w ∈ wsX1_hasState := fun _ h => List.mem_cons_of_mem _ (List.mem_append_right _ h)
theorem lk_X1_hasState_15 : Cond.fieldLink RX1 15 (TX1 0).1 (TX1 0).2.1 (TX1 0).2.2.1 ∈ wsX1_hasState := List.mem_of_getElem? (i := 1) rfl
set_option maxHeartbeats 4000000 in
set_option maxRecDepth 100000 in
theorem c_X1_hasState (a r P Y o t n q S h : Nat) (F : Nat → Nat) (x : Int32) (hP : P < 2 ^ 31) : Ct l yX1_hasState wsX1_hasState (rmD (0)) D [(cI, .int), (cC, .char), (cJ, .long), (cG, .object "PushdownGameSolver$Game")] [.ref (a), .int (x)] [(a, .inr (1, [.int (nI P), .int (nI Y), .int (nI o), .int (nI t), .int (nI n), .ref (r), .int (nI q), .long (lN S), .int (nI h)])), (r, .inl (cI, 16, .inl (fun zz => nI (F zz))))] (S := Unit) (fun _ => True) (fun _ => some (.int (nI (b2n (inR x P))))) (fun _ => [(a, .inr (1, [.int (nI P), .int (nI Y), .int (nI o), .int (nI t), .int (nI n), .ref (r), .int (nI q), .long (lN S), .int (nI h)])), (r, .inl (cI, 16, .inl (fun zz => nI (F zz))))]) := by
  refine Ct.of (lv := [(0, .ref (a)), (1, .int (x))]) (by decide) rfl (Nat.le_of_ble_eq_true rfl) rfl ?_
  intro ε hL EE FF
  refine j_iload_n EE 1 dX1_hasState_0 rfl rfl ?_
  refine j_if_lt EE 16 dX1_hasState_1 (by decide) (fun c1 => ?_) (fun c1 => ?_)
  · skip
    refine j_iconst (v := nI 0) EE dX1_hasState_16 (by decide) ?_
    exact j_zret EE FF (by decide) dX1_hasState_17 () trivial (by first | rw [inR_neg c1]; rfl | rw [inR_ge hP c9]; rfl | rw [inR_ok hP c1 c9]; rfl) rfl
  · skip
    refine j_iload_n EE 1 dX1_hasState_4 rfl rfl ?_
    refine j_aload_n EE 0 dX1_hasState_5 rfl rfl ?_
    refine j_get (T := TX1) EE iw_X1_hasState_X1 0 rfl rfl 0 (by decide) lk_X1_hasState_15 rfl dX1_hasState_6 ?_
    refine j_icmp_ge EE 16 dX1_hasState_9 (by decide) (fun c9 => ?_) (fun c9 => ?_)
    · skip
      refine j_iconst (v := nI 0) EE dX1_hasState_16 (by decide) ?_
      exact j_zret EE FF (by decide) dX1_hasState_17 () trivial (by first | rw [inR_neg c1]; rfl | rw [inR_ge hP c9]; rfl | rw [inR_ok hP c1 c9]; rfl) rfl
    · skip
      refine j_iconst (v := nI 1) EE dX1_hasState_12 (by decide) ?_
      refine j_goto EE 17 dX1_hasState_13 (by decide) ?_
      exact j_zret EE FF (by decide) dX1_hasState_17 () trivial (by first | rw [inR_neg c1]; rfl | rw [inR_ge hP c9]; rfl | rw [inR_ok hP c1 c9]; rfl) rfl

theorem iw_X1_hasSymbol_X1 : ∀ w ∈ wsX10, w ∈ wsX1_hasSymbol := fun _ h => List.mem_cons_of_mem _ (List.mem_append_right _ h)
theorem lk_X1_hasSymbol_19 : Cond.fieldLink RX1 19 (TX1 1).1 (TX1 1).2.1 (TX1 1).2.2.1 ∈ wsX1_hasSymbol := List.mem_of_getElem? (i := 1) rfl
set_option maxHeartbeats 4000000 in
set_option maxRecDepth 100000 in
theorem c_X1_hasSymbol (a r P Y o t n q S h : Nat) (F : Nat → Nat) (x : Int32) (hY : Y < 2 ^ 31) : Ct l yX1_hasSymbol wsX1_hasSymbol (rmD (0)) D [(cI, .int), (cC, .char), (cJ, .long), (cG, .object "PushdownGameSolver$Game")] [.ref (a), .int (x)] [(a, .inr (1, [.int (nI P), .int (nI Y), .int (nI o), .int (nI t), .int (nI n), .ref (r), .int (nI q), .long (lN S), .int (nI h)])), (r, .inl (cI, 16, .inl (fun zz => nI (F zz))))] (S := Unit) (fun _ => True) (fun _ => some (.int (nI (b2n (inR x Y))))) (fun _ => [(a, .inr (1, [.int (nI P), .int (nI Y), .int (nI o), .int (nI t), .int (nI n), .ref (r), .int (nI q), .long (lN S), .int (nI h)])), (r, .inl (cI, 16, .inl (fun zz => nI (F zz))))]) := by
  refine Ct.of (lv := [(0, .ref (a)), (1, .int (x))]) (by decide) rfl (Nat.le_of_ble_eq_true rfl) rfl ?_
  intro ε hL EE FF
  refine j_iload_n EE 1 dX1_hasSymbol_0 rfl rfl ?_
  refine j_if_lt EE 16 dX1_hasSymbol_1 (by decide) (fun c1 => ?_) (fun c1 => ?_)
  · skip
    refine j_iconst (v := nI 0) EE dX1_hasSymbol_16 (by decide) ?_
    exact j_zret EE FF (by decide) dX1_hasSymbol_17 () trivial (by first | rw [inR_neg c1]; rfl | rw [inR_ge hY c9]; rfl | rw [inR_ok hY c1 c9]; rfl) rfl
  · skip
    refine j_iload_n EE 1 dX1_hasSymbol_4 rfl rfl ?_
    refine j_aload_n EE 0 dX1_hasSymbol_5 rfl rfl ?_
    refine j_get (T := TX1) EE iw_X1_hasSymbol_X1 0 rfl rfl 1 (by decide) lk_X1_hasSymbol_19 rfl dX1_hasSymbol_6 ?_
    refine j_icmp_ge EE 16 dX1_hasSymbol_9 (by decide) (fun c9 => ?_) (fun c9 => ?_)
    · skip
      refine j_iconst (v := nI 0) EE dX1_hasSymbol_16 (by decide) ?_
      exact j_zret EE FF (by decide) dX1_hasSymbol_17 () trivial (by first | rw [inR_neg c1]; rfl | rw [inR_ge hY c9]; rfl | rw [inR_ok hY c1 c9]; rfl) rfl
    · skip
      refine j_iconst (v := nI 1) EE dX1_hasSymbol_12 (by decide) ?_
      refine j_goto EE 17 dX1_hasSymbol_13 (by decide) ?_
      exact j_zret EE FF (by decide) dX1_hasSymbol_17 () trivial (by first | rw [inR_neg c1]; rfl | rw [inR_ge hY c9]; rfl | rw [inR_ok hY c1 c9]; rfl) rfl

theorem iw_X1_hasRule_X1 : ∀ w ∈ wsX10, w ∈ wsX1_hasRule := fun _ h => List.mem_cons_of_mem _ (List.mem_append_right _ h)
theorem lk_X1_hasRule_28 : Cond.fieldLink RX1 28 (TX1 4).1 (TX1 4).2.1 (TX1 4).2.2.1 ∈ wsX1_hasRule := List.mem_of_getElem? (i := 1) rfl
set_option maxHeartbeats 4000000 in
set_option maxRecDepth 100000 in
theorem c_X1_hasRule (a r P Y o t n q S h : Nat) (F : Nat → Nat) (x : Int32) (hn : n < 2 ^ 31) : Ct l yX1_hasRule wsX1_hasRule (rmD (0)) D [(cI, .int), (cC, .char), (cJ, .long), (cG, .object "PushdownGameSolver$Game")] [.ref (a), .int (x)] [(a, .inr (1, [.int (nI P), .int (nI Y), .int (nI o), .int (nI t), .int (nI n), .ref (r), .int (nI q), .long (lN S), .int (nI h)])), (r, .inl (cI, 16, .inl (fun zz => nI (F zz))))] (S := Unit) (fun _ => True) (fun _ => some (.int (nI (b2n (inR x n))))) (fun _ => [(a, .inr (1, [.int (nI P), .int (nI Y), .int (nI o), .int (nI t), .int (nI n), .ref (r), .int (nI q), .long (lN S), .int (nI h)])), (r, .inl (cI, 16, .inl (fun zz => nI (F zz))))]) := by
  refine Ct.of (lv := [(0, .ref (a)), (1, .int (x))]) (by decide) rfl (Nat.le_of_ble_eq_true rfl) rfl ?_
  intro ε hL EE FF
  refine j_iload_n EE 1 dX1_hasRule_0 rfl rfl ?_
  refine j_if_lt EE 16 dX1_hasRule_1 (by decide) (fun c1 => ?_) (fun c1 => ?_)
  · skip
    refine j_iconst (v := nI 0) EE dX1_hasRule_16 (by decide) ?_
    exact j_zret EE FF (by decide) dX1_hasRule_17 () trivial (by first | rw [inR_neg c1]; rfl | rw [inR_ge hn c9]; rfl | rw [inR_ok hn c1 c9]; rfl) rfl
  · skip
    refine j_iload_n EE 1 dX1_hasRule_4 rfl rfl ?_
    refine j_aload_n EE 0 dX1_hasRule_5 rfl rfl ?_
    refine j_get (T := TX1) EE iw_X1_hasRule_X1 0 rfl rfl 4 (by decide) lk_X1_hasRule_28 rfl dX1_hasRule_6 ?_
    refine j_icmp_ge EE 16 dX1_hasRule_9 (by decide) (fun c9 => ?_) (fun c9 => ?_)
    · skip
      refine j_iconst (v := nI 0) EE dX1_hasRule_16 (by decide) ?_
      exact j_zret EE FF (by decide) dX1_hasRule_17 () trivial (by first | rw [inR_neg c1]; rfl | rw [inR_ge hn c9]; rfl | rw [inR_ok hn c1 c9]; rfl) rfl
    · skip
      refine j_iconst (v := nI 1) EE dX1_hasRule_12 (by decide) ?_
      refine j_goto EE 17 dX1_hasRule_13 (by decide) ?_
      exact j_zret EE FF (by decide) dX1_hasRule_17 () trivial (by first | rw [inR_neg c1]; rfl | rw [inR_ge hn c9]; rfl | rw [inR_ok hn c1 c9]; rfl) rfl

theorem iw_X1_owner_X1 : ∀ w ∈ wsX10, w ∈ wsX1_owner := fun _ h => List.mem_cons_of_mem _ (List.mem_append_right _ h)
theorem lk_X1_owner_22 : Cond.fieldLink RX1 22 (TX1 2).1 (TX1 2).2.1 (TX1 2).2.2.1 ∈ wsX1_owner := List.mem_of_getElem? (i := 1) rfl
theorem hd_X9_bit : yX9_bit.cls ≠ "java/lang/invoke/MethodHandle" ∧ yX9_bit.cls ≠ "java/lang/invoke/VarHandle" ∧ (parseMethodDescriptor yX9_bit.desc).map (fun d => d.parameters.length) = some 2 := by decide +kernel
theorem mw_X1_owner_iX9 : Cond.initialized RX9 ∈ wsX1_owner := List.mem_of_getElem? (i := 3) rfl
theorem mw_X1_owner_s_X9_bit : Cond.static yX9_bit ∈ wsX1_owner := List.mem_of_getElem? (i := 2) rfl
set_option maxHeartbeats 4000000 in
set_option maxRecDepth 100000 in
theorem c_X1_owner (a r P Y o t n q S h : Nat) (F : Nat → Nat) (i : Nat) (ho : o < 2 ^ 31) (hi : i < 31) : Ct l yX1_owner wsX1_owner (rmD (1)) D [(cI, .int), (cC, .char), (cJ, .long), (cG, .object "PushdownGameSolver$Game")] [.ref (a), .int (nI i)] [(a, .inr (1, [.int (nI P), .int (nI Y), .int (nI o), .int (nI t), .int (nI n), .ref (r), .int (nI q), .long (lN S), .int (nI h)])), (r, .inl (cI, 16, .inl (fun zz => nI (F zz))))] (S := Unit) (fun _ => True) (fun _ => some (.int (nI (bt o i)))) (fun _ => [(a, .inr (1, [.int (nI P), .int (nI Y), .int (nI o), .int (nI t), .int (nI n), .ref (r), .int (nI q), .long (lN S), .int (nI h)])), (r, .inl (cI, 16, .inl (fun zz => nI (F zz))))]) := by
  refine Ct.of (lv := [(0, .ref (a)), (1, .int (nI i))]) (by decide) rfl (Nat.le_of_ble_eq_true rfl) rfl ?_
  intro ε hL EE FF
  refine j_aload_n EE 0 dX1_owner_0 rfl rfl ?_
  refine j_get (T := TX1) EE iw_X1_owner_X1 0 rfl rfl 2 (by decide) lk_X1_owner_22 rfl dX1_owner_1 ?_
  refine j_iload_n EE 1 dX1_owner_4 rfl rfl ?_
  refine j_SN2 (n9 := 2) EE (c_X9_bit o i (by omega) (by omega)) gX1_owner_X9_bit_n51 hd_X9_bit (by decide) mw_X1_owner_iX9 mw_X1_owner_s_X9_bit rfl ⟨rfl, rfl⟩ ⟨by decide, by decide⟩ rfl [] rfl [0, 1] [(a, .inr (1, [.int (nI P), .int (nI Y), .int (nI o), .int (nI t), .int (nI n), .ref (r), .int (nI q), .long (lN S), .int (nI h)])), (r, .inl (cI, 16, .inl (fun zz => nI (F zz))))] (fun _ => rfl) [(a, .inr (1, [.int (nI P), .int (nI Y), .int (nI o), .int (nI t), .int (nI n), .ref (r), .int (nI q), .long (lN S), .int (nI h)])), (r, .inl (cI, 16, .inl (fun zz => nI (F zz))))] [a, r] rfl rfl rfl rfl rfl (by decide) (by decide) rfl (Nat.le_of_ble_eq_true rfl) dX1_owner_5 (fun u_5 h_5 => ?_) rfl
  show J l _ D ε _ _ _ (.int (nI (bt o i)) :: _)
  refine j_iconst (v := nI 1) EE dX1_owner_8 (by decide) ?_
  refine j_icmp_ne EE 16 dX1_owner_9 (by decide) (fun c9 => ?_) (fun c9 => ?_)
  · skip
    have n9 : (bt o i) ≠ 1 := fun hq => c9 ((nI_eq (a := (bt o i)) (b := 1) (by have := bt_lt o i; omega) (by have := bt_lt o i; omega)).mpr hq)
    refine j_iconst (v := nI 0) EE dX1_owner_16 (by decide) ?_
    exact j_iret EE FF dX1_owner_17 () trivial (by have := bt_lt o i; first | rw [show bt o i = 1 by omega] | rw [show bt o i = 0 by omega]) rfl
  · skip
    have n9 : (bt o i) = 1 := (nI_eq (a := (bt o i)) (b := 1) (by have := bt_lt o i; omega) (by have := bt_lt o i; omega)).mp c9
    refine j_iconst (v := nI 1) EE dX1_owner_12 (by decide) ?_
    refine j_goto EE 17 dX1_owner_13 (by decide) ?_
    exact j_iret EE FF dX1_owner_17 () trivial (by have := bt_lt o i; first | rw [show bt o i = 1 by omega] | rw [show bt o i = 0 by omega]) rfl

theorem iw_X1_isPlayable_X1 : ∀ w ∈ wsX10, w ∈ wsX1_isPlayable := fun _ h => List.mem_cons_of_mem _ (List.mem_append_right _ h)
theorem lk_X1_isPlayable_48 : Cond.fieldLink RX1 48 (TX1 8).1 (TX1 8).2.1 (TX1 8).2.2.1 ∈ wsX1_isPlayable := List.mem_of_getElem? (i := 1) rfl
theorem lk_X1_isPlayable_41 : Cond.fieldLink RX1 41 (TX1 6).1 (TX1 6).2.1 (TX1 6).2.2.1 ∈ wsX1_isPlayable := List.mem_of_getElem? (i := 2) rfl
theorem lk_X1_isPlayable_44 : Cond.fieldLink RX1 44 (TX1 7).1 (TX1 7).2.1 (TX1 7).2.2.1 ∈ wsX1_isPlayable := List.mem_of_getElem? (i := 3) rfl
theorem hd_X7_symbolAt : yX7_symbolAt.cls ≠ "java/lang/invoke/MethodHandle" ∧ yX7_symbolAt.cls ≠ "java/lang/invoke/VarHandle" ∧ (parseMethodDescriptor yX7_symbolAt.desc).map (fun d => d.parameters.length) = some 2 := by decide +kernel
theorem hd_X4_of : yX4_of.cls ≠ "java/lang/invoke/MethodHandle" ∧ yX4_of.cls ≠ "java/lang/invoke/VarHandle" ∧ (parseMethodDescriptor yX4_of.desc).map (fun d => d.parameters.length) = some 2 := by decide +kernel
theorem hd_X5_fitsPair : yX5_fitsPair.cls ≠ "java/lang/invoke/MethodHandle" ∧ yX5_fitsPair.cls ≠ "java/lang/invoke/VarHandle" ∧ (parseMethodDescriptor yX5_fitsPair.desc).map (fun d => d.parameters.length) = some 2 := by decide +kernel
set_option maxHeartbeats 4000000 in
set_option maxRecDepth 100000 in
theorem c_X1_isPlayable (a r P Y o t n q S h : Nat) (F : Nat → Nat) (k : Nat) (hk : k < 1024) (hq : q < 4) (hS : S < 2 ^ 50) (hh : h < 100) : Ct l yX1_isPlayable wsX1_isPlayable (rmD (1)) D [(cI, .int), (cC, .char), (cJ, .long), (cG, .object "PushdownGameSolver$Game")] [.ref (a), .int (nI k)] [(a, .inr (1, [.int (nI P), .int (nI Y), .int (nI o), .int (nI t), .int (nI n), .ref (r), .int (nI q), .long (lN S), .int (nI h)])), (r, .inl (cI, 16, .inl (fun zz => nI (F zz))))] (S := Unit) (fun _ => True) (fun _ => some (.int (nI (b2n (decide (0 < h ∧ k % 16 = q + 4 * (S % 4))))))) (fun _ => [(a, .inr (1, [.int (nI P), .int (nI Y), .int (nI o), .int (nI t), .int (nI n), .ref (r), .int (nI q), .long (lN S), .int (nI h)])), (r, .inl (cI, 16, .inl (fun zz => nI (F zz))))]) := by
  refine Ct.of (lv := [(0, .ref (a)), (1, .int (nI k))]) (by decide) rfl (Nat.le_of_ble_eq_true rfl) rfl ?_
  intro ε hL EE FF
  refine j_aload_n EE 0 dX1_isPlayable_0 rfl rfl ?_
  refine j_get (T := TX1) EE iw_X1_isPlayable_X1 0 rfl rfl 8 (by decide) lk_X1_isPlayable_48 rfl dX1_isPlayable_1 ?_
  refine j_if_le EE 33 dX1_isPlayable_4 (by decide) (fun c4 => ?_) (fun c4 => ?_)
  · skip
    have n4 : h ≤ 0 := (nI_leI (a := h) (b := 0) (by omega) (by omega)).mp c4
    refine j_iconst (v := nI 0) EE dX1_isPlayable_33 (by decide) ?_
    exact j_zret EE FF (by decide) dX1_isPlayable_34 () trivial (by first | rw [decide_eq_true (show 0 < h ∧ k % 16 = q + 4 * (S % 4) from ⟨by omega, b2d_1 n26⟩)]; rfl | rw [decide_eq_false (show ¬ (0 < h ∧ k % 16 = q + 4 * (S % 4)) from fun z => by omega)]; rfl | rw [decide_eq_false (show ¬ (0 < h ∧ k % 16 = q + 4 * (S % 4)) from fun z => b2d_0 n26 z.2)]; rfl) rfl
  · skip
    have n4 : ¬ h ≤ 0 := fun hq => c4 ((nI_leI (a := h) (b := 0) (by omega) (by omega)).mpr hq)
    refine j_iload_n EE 1 dX1_isPlayable_7 rfl rfl ?_
    refine j_aload_n EE 0 dX1_isPlayable_8 rfl rfl ?_
    refine j_get (T := TX1) EE iw_X1_isPlayable_X1 0 rfl rfl 6 (by decide) lk_X1_isPlayable_41 rfl dX1_isPlayable_9 ?_
    refine j_aload_n EE 0 dX1_isPlayable_12 rfl rfl ?_
    refine j_get (T := TX1) EE iw_X1_isPlayable_X1 0 rfl rfl 7 (by decide) lk_X1_isPlayable_44 rfl dX1_isPlayable_13 ?_
    refine j_iconst (v := nI 0) EE dX1_isPlayable_16 (by decide) ?_
    refine j_S2 (n9 := 2) EE (c_X7_symbolAt S 0 (by omega) (by omega)) gX1_isPlayable_X7_symbolAt hd_X7_symbolAt rfl ⟨rfl, rfl⟩ ⟨by decide, by decide⟩ rfl [] rfl [0, 1] [(a, .inr (1, [.int (nI P), .int (nI Y), .int (nI o), .int (nI t), .int (nI n), .ref (r), .int (nI q), .long (lN S), .int (nI h)])), (r, .inl (cI, 16, .inl (fun zz => nI (F zz))))] (fun _ => rfl) [(a, .inr (1, [.int (nI P), .int (nI Y), .int (nI o), .int (nI t), .int (nI n), .ref (r), .int (nI q), .long (lN S), .int (nI h)])), (r, .inl (cI, 16, .inl (fun zz => nI (F zz))))] [a, r] rfl rfl rfl rfl rfl (by decide) (by decide) rfl (Nat.le_of_ble_eq_true rfl) dX1_isPlayable_17 (fun u_17 h_17 => ?_) rfl
    show J l _ D ε _ _ _ (.int (nI (S / 4 ^ 0 % 4)) :: _)
    refine j_topE (y := nI (S % 4)) (by rw [Nat.pow_zero, Nat.div_one]) ?_
    show J l _ D ε _ _ _ (.int (nI (S % 4)) :: _)
    refine j_S2 (n9 := 2) EE (c_X4_of q (S % 4) (by omega) (by omega)) gX1_isPlayable_X4_of hd_X4_of rfl ⟨rfl, rfl⟩ ⟨by decide, by decide⟩ rfl [] rfl [0, 1] [(a, .inr (1, [.int (nI P), .int (nI Y), .int (nI o), .int (nI t), .int (nI n), .ref (r), .int (nI q), .long (lN S), .int (nI h)])), (r, .inl (cI, 16, .inl (fun zz => nI (F zz))))] (fun _ => rfl) [(a, .inr (1, [.int (nI P), .int (nI Y), .int (nI o), .int (nI t), .int (nI n), .ref (r), .int (nI q), .long (lN S), .int (nI h)])), (r, .inl (cI, 16, .inl (fun zz => nI (F zz))))] [a, r] rfl rfl rfl rfl rfl (by decide) (by decide) rfl (Nat.le_of_ble_eq_true rfl) dX1_isPlayable_20 (fun u_20 h_20 => ?_) rfl
    show J l _ D ε _ _ _ (.int (nI (q + 4 * (S % 4))) :: _)
    refine j_S2 (n9 := 2) EE (c_X5_fitsPair k (q + 4 * (S % 4)) (by omega) (by omega)) gX1_isPlayable_X5_fitsPair hd_X5_fitsPair rfl ⟨rfl, rfl⟩ ⟨by decide, by decide⟩ rfl [] rfl [0, 1] [(a, .inr (1, [.int (nI P), .int (nI Y), .int (nI o), .int (nI t), .int (nI n), .ref (r), .int (nI q), .long (lN S), .int (nI h)])), (r, .inl (cI, 16, .inl (fun zz => nI (F zz))))] (fun _ => rfl) [(a, .inr (1, [.int (nI P), .int (nI Y), .int (nI o), .int (nI t), .int (nI n), .ref (r), .int (nI q), .long (lN S), .int (nI h)])), (r, .inl (cI, 16, .inl (fun zz => nI (F zz))))] [a, r] rfl rfl rfl rfl rfl (by decide) (by decide) rfl (Nat.le_of_ble_eq_true rfl) dX1_isPlayable_23 (fun u_23 h_23 => ?_) rfl
    show J l _ D ε _ _ _ (.int (nI (b2n (decide (k % 16 = (q + 4 * (S % 4)))))) :: _)
    refine j_if_eq EE 33 dX1_isPlayable_26 (by decide) (fun c26 => ?_) (fun c26 => ?_)
    · skip
      have n26 : (b2n (decide (k % 16 = (q + 4 * (S % 4))))) = 0 := (nI_eq (a := (b2n (decide (k % 16 = (q + 4 * (S % 4)))))) (b := 0) (by have := b2n_lt (decide (k % 16 = (q + 4 * (S % 4)))); omega) (by have := b2n_lt (decide (k % 16 = (q + 4 * (S % 4)))); omega)).mp c26
      refine j_iconst (v := nI 0) EE dX1_isPlayable_33 (by decide) ?_
      exact j_zret EE FF (by decide) dX1_isPlayable_34 () trivial (by first | rw [decide_eq_true (show 0 < h ∧ k % 16 = q + 4 * (S % 4) from ⟨by omega, b2d_1 n26⟩)]; rfl | rw [decide_eq_false (show ¬ (0 < h ∧ k % 16 = q + 4 * (S % 4)) from fun z => by omega)]; rfl | rw [decide_eq_false (show ¬ (0 < h ∧ k % 16 = q + 4 * (S % 4)) from fun z => b2d_0 n26 z.2)]; rfl) rfl
    · skip
      have n26 : (b2n (decide (k % 16 = (q + 4 * (S % 4))))) ≠ 0 := fun hq => c26 ((nI_eq (a := (b2n (decide (k % 16 = (q + 4 * (S % 4)))))) (b := 0) (by have := b2n_lt (decide (k % 16 = (q + 4 * (S % 4)))); omega) (by have := b2n_lt (decide (k % 16 = (q + 4 * (S % 4)))); omega)).mpr hq)
      refine j_iconst (v := nI 1) EE dX1_isPlayable_29 (by decide) ?_
      refine j_goto EE 34 dX1_isPlayable_30 (by decide) ?_
      exact j_zret EE FF (by decide) dX1_isPlayable_34 () trivial (by first | rw [decide_eq_true (show 0 < h ∧ k % 16 = q + 4 * (S % 4) from ⟨by omega, b2d_1 n26⟩)]; rfl | rw [decide_eq_false (show ¬ (0 < h ∧ k % 16 = q + 4 * (S % 4)) from fun z => by omega)]; rfl | rw [decide_eq_false (show ¬ (0 < h ∧ k % 16 = q + 4 * (S % 4)) from fun z => b2d_0 n26 z.2)]; rfl) rfl

theorem hd_X1_hasSymbol : yX1_hasSymbol.cls ≠ "java/lang/invoke/MethodHandle" ∧ yX1_hasSymbol.cls ≠ "java/lang/invoke/VarHandle" ∧ (parseMethodDescriptor yX1_hasSymbol.desc).map (fun d => d.parameters.length) = some 1 := by decide +kernel
set_option maxHeartbeats 4000000 in
set_option maxRecDepth 100000 in
theorem c_X1_isWord (a r P Y o t n q S h : Nat) (F : Nat → Nat) (u v : Int32) (hY : Y < 2 ^ 31) : Ct l yX1_isWord wsX1_isWord (rmD (1)) D [(cI, .int), (cC, .char), (cJ, .long), (cG, .object "PushdownGameSolver$Game")] [.ref (a), .int (u), .int (v)] [(a, .inr (1, [.int (nI P), .int (nI Y), .int (nI o), .int (nI t), .int (nI n), .ref (r), .int (nI q), .long (lN S), .int (nI h)])), (r, .inl (cI, 16, .inl (fun zz => nI (F zz))))] (S := Unit) (fun _ => True) (fun _ => some (.int (nI (b2n (isW u v Y))))) (fun _ => [(a, .inr (1, [.int (nI P), .int (nI Y), .int (nI o), .int (nI t), .int (nI n), .ref (r), .int (nI q), .long (lN S), .int (nI h)])), (r, .inl (cI, 16, .inl (fun zz => nI (F zz))))]) := by
  refine Ct.of (lv := [(0, .ref (a)), (1, .int (u)), (2, .int (v))]) (by decide) rfl (Nat.le_of_ble_eq_true rfl) rfl ?_
  intro ε hL EE FF
  refine j_iload_n EE 1 dX1_isWord_0 rfl rfl ?_
  refine j_iconst (v := (-1)) EE dX1_isWord_1 (by decide) ?_
  refine j_icmp_ne EE 16 dX1_isWord_2 (by decide) (fun c2 => ?_) (fun c2 => ?_)
  · skip
    refine j_aload_n EE 0 dX1_isWord_16 rfl rfl ?_
    refine j_iload_n EE 1 dX1_isWord_17 rfl rfl ?_
    refine j_V2 (n9 := 2) EE (c_X1_hasSymbol a r P Y o t n q S h F u (by omega)) gX1_isWord_X1_hasSymbol ⟨rfl, hd_X1_hasSymbol⟩ rfl ⟨rfl, rfl⟩ ⟨by decide, by decide⟩ rfl [0, 1] rfl [] [(a, .inr (1, [.int (nI P), .int (nI Y), .int (nI o), .int (nI t), .int (nI n), .ref (r), .int (nI q), .long (lN S), .int (nI h)])), (r, .inl (cI, 16, .inl (fun zz => nI (F zz))))] (fun _ => rfl) [] [a, r] rfl rfl rfl rfl rfl (by decide) (by decide) 0 rfl rfl rfl (Nat.le_of_ble_eq_true rfl) dX1_isWord_18 (fun u_18 h_18 => ?_) rfl
    show J l _ D ε _ _ _ (.int (nI (b2n (inR u Y))) :: _)
    refine j_if_eq EE 41 dX1_isWord_21 (by decide) (fun c21 => ?_) (fun c21 => ?_)
    · skip
      have n21 : (b2n (inR u Y)) = 0 := (nI_eq (a := (b2n (inR u Y))) (b := 0) (by have := b2n_lt (inR u Y); omega) (by have := b2n_lt (inR u Y); omega)).mp c21
      have m21 := b2n_0 n21
      refine j_iconst (v := nI 0) EE dX1_isWord_41 (by decide) ?_
      exact j_zret EE FF (by decide) dX1_isWord_42 () trivial (by simp [isW, b2n, *]) rfl
    · skip
      have n21 : (b2n (inR u Y)) ≠ 0 := fun hq => c21 ((nI_eq (a := (b2n (inR u Y))) (b := 0) (by have := b2n_lt (inR u Y); omega) (by have := b2n_lt (inR u Y); omega)).mpr hq)
      have m21 := b2n_ne0 n21
      refine j_iload_n EE 2 dX1_isWord_24 rfl rfl ?_
      refine j_iconst (v := (-1)) EE dX1_isWord_25 (by decide) ?_
      refine j_icmp_eq EE 37 dX1_isWord_26 (by decide) (fun c26 => ?_) (fun c26 => ?_)
      · skip
        refine j_iconst (v := nI 1) EE dX1_isWord_37 (by decide) ?_
        refine j_goto EE 42 dX1_isWord_38 (by decide) ?_
        exact j_zret EE FF (by decide) dX1_isWord_42 () trivial (by simp [isW, b2n, *]) rfl
      · skip
        refine j_aload_n EE 0 dX1_isWord_29 rfl rfl ?_
        refine j_iload_n EE 2 dX1_isWord_30 rfl rfl ?_
        refine j_V2 (n9 := 2) EE (c_X1_hasSymbol a r P Y o t n q S h F v (by omega)) gX1_isWord_X1_hasSymbol ⟨rfl, hd_X1_hasSymbol⟩ rfl ⟨rfl, rfl⟩ ⟨by decide, by decide⟩ rfl [0, 1] rfl [] [(a, .inr (1, [.int (nI P), .int (nI Y), .int (nI o), .int (nI t), .int (nI n), .ref (r), .int (nI q), .long (lN S), .int (nI h)])), (r, .inl (cI, 16, .inl (fun zz => nI (F zz))))] (fun _ => rfl) [] [a, r] rfl rfl rfl rfl rfl (by decide) (by decide) 0 rfl rfl rfl (Nat.le_of_ble_eq_true rfl) dX1_isWord_31 (fun u_31 h_31 => ?_) rfl
        show J l _ D ε _ _ _ (.int (nI (b2n (inR v Y))) :: _)
        refine j_if_eq EE 41 dX1_isWord_34 (by decide) (fun c34 => ?_) (fun c34 => ?_)
        · skip
          have n34 : (b2n (inR v Y)) = 0 := (nI_eq (a := (b2n (inR v Y))) (b := 0) (by have := b2n_lt (inR v Y); omega) (by have := b2n_lt (inR v Y); omega)).mp c34
          have m34 := b2n_0 n34
          refine j_iconst (v := nI 0) EE dX1_isWord_41 (by decide) ?_
          exact j_zret EE FF (by decide) dX1_isWord_42 () trivial (by simp [isW, b2n, *]) rfl
        · skip
          have n34 : (b2n (inR v Y)) ≠ 0 := fun hq => c34 ((nI_eq (a := (b2n (inR v Y))) (b := 0) (by have := b2n_lt (inR v Y); omega) (by have := b2n_lt (inR v Y); omega)).mpr hq)
          have m34 := b2n_ne0 n34
          refine j_iconst (v := nI 1) EE dX1_isWord_37 (by decide) ?_
          refine j_goto EE 42 dX1_isWord_38 (by decide) ?_
          exact j_zret EE FF (by decide) dX1_isWord_42 () trivial (by simp [isW, b2n, *]) rfl
  · skip
    refine j_iload_n EE 2 dX1_isWord_5 rfl rfl ?_
    refine j_iconst (v := (-1)) EE dX1_isWord_6 (by decide) ?_
    refine j_icmp_ne EE 14 dX1_isWord_7 (by decide) (fun c7 => ?_) (fun c7 => ?_)
    · skip
      refine j_iconst (v := nI 0) EE dX1_isWord_14 (by decide) ?_
      exact j_zret EE FF (by decide) dX1_isWord_15 () trivial (by simp [isW, b2n, *]) rfl
    · skip
      refine j_iconst (v := nI 1) EE dX1_isWord_10 (by decide) ?_
      refine j_goto EE 15 dX1_isWord_11 (by decide) ?_
      exact j_zret EE FF (by decide) dX1_isWord_15 () trivial (by simp [isW, b2n, *]) rfl

theorem iw_X1_rulesOf_X1 : ∀ w ∈ wsX10, w ∈ wsX1_rulesOf := fun _ h => List.mem_cons_of_mem _ (List.mem_append_right _ h)
theorem lk_X1_rulesOf_28 : Cond.fieldLink RX1 28 (TX1 4).1 (TX1 4).2.1 (TX1 4).2.2.1 ∈ wsX1_rulesOf := List.mem_of_getElem? (i := 1) rfl
theorem lk_X1_rulesOf_11 : Cond.fieldLink RX1 11 (TX1 5).1 (TX1 5).2.1 (TX1 5).2.2.1 ∈ wsX1_rulesOf := List.mem_of_getElem? (i := 2) rfl
set_option maxHeartbeats 4000000 in
set_option maxRecDepth 100000 in
theorem c_X1_rulesOf (a r P Y o t n q S h : Nat) (F : Nat → Nat) (pr : Nat) (hpr : pr < 16) (hn : n ≤ 16) (hF : ∀ i, F i < 1024) : Ct l yX1_rulesOf wsX1_rulesOf (rmD (1)) D [(cI, .int), (cC, .char), (cJ, .long), (cG, .object "PushdownGameSolver$Game")] [.ref (a), .int (nI pr)] [(a, .inr (1, [.int (nI P), .int (nI Y), .int (nI o), .int (nI t), .int (nI n), .ref (r), .int (nI q), .long (lN S), .int (nI h)])), (r, .inl (cI, 16, .inl (fun zz => nI (F zz))))] (S := Unit) (fun _ => True) (fun _ => some (.int (nI (rcnt F pr n)))) (fun _ => [(a, .inr (1, [.int (nI P), .int (nI Y), .int (nI o), .int (nI t), .int (nI n), .ref (r), .int (nI q), .long (lN S), .int (nI h)])), (r, .inl (cI, 16, .inl (fun zz => nI (F zz))))]) := by
  refine Ct.of (lv := [(0, .ref (a)), (1, .int (nI pr))]) (by decide) rfl (Nat.le_of_ble_eq_true rfl) rfl ?_
  intro ε hL EE FF
  have Lp_4 : ∀ (nf : Nat), ∀ (i : Nat), 17 - i < nf → (i ≤ n) → J l (rmD (1)) D ε [(a, .inr (1, [.int (nI P), .int (nI Y), .int (nI o), .int (nI t), .int (nI n), .ref (r), .int (nI q), .long (lN S), .int (nI h)])), (r, .inl (cI, 16, .inl (fun zz => nI (F zz))))] 4 [(3, .int (nI i)), (2, .int (nI (rcnt F pr i))), (0, .ref (a)), (1, .int (nI pr))] [] := by
    intro nf
    induction nf with
    | zero => intro i hm; exact absurd hm (Nat.not_lt_zero _)
    | succ nf ihp_4 =>
      intro i hm4 hi
      refine j_iload_n EE 0 dX1_rulesOf_4 rfl rfl ?_
      refine j_aload_n EE 2 dX1_rulesOf_5 rfl rfl ?_
      refine j_get (T := TX1) EE iw_X1_rulesOf_X1 0 rfl rfl 4 (by decide) lk_X1_rulesOf_28 rfl dX1_rulesOf_6 ?_
      refine j_icmp_ge EE 34 dX1_rulesOf_9 (by decide) (fun c9 => ?_) (fun c9 => ?_)
      · skip
        have n9 : n ≤ i := (nI_leI (a := n) (b := i) (by omega) (by omega)).mp c9
        refine j_iload_n EE 1 dX1_rulesOf_34 rfl rfl ?_
        exact j_iret EE FF dX1_rulesOf_35 () trivial (by rw [show n = i by omega]) rfl
      · skip
        have n9 : ¬ n ≤ i := fun hq => c9 ((nI_leI (a := n) (b := i) (by omega) (by omega)).mpr hq)
        refine j_aload_n EE 2 dX1_rulesOf_12 rfl rfl ?_
        refine j_get (T := TX1) EE iw_X1_rulesOf_X1 0 rfl rfl 5 (by decide) lk_X1_rulesOf_11 rfl dX1_rulesOf_13 ?_
        refine j_iload_n EE 0 dX1_rulesOf_16 rfl rfl ?_
        refine j_iald EE 1 0 rfl rfl (vp_in_nI (n := i) (by omega) (by decide)) dX1_rulesOf_17 ?_
        refine j_topE (congrArg (fun zz => nI (F zz)) (nI_clamp (n := i) (by omega))) ?_
        refine j_topE (y := nI (F i)) rfl ?_
        refine j_iload_n EE 3 dX1_rulesOf_18 rfl rfl ?_
        refine j_S2 (n9 := 2) EE (c_X5_fitsPair (F i) pr (by have := hF i; omega) (by have := hF i; omega)) gX1_rulesOf_X5_fitsPair hd_X5_fitsPair rfl ⟨rfl, rfl⟩ ⟨by decide, by decide⟩ rfl [] rfl [0, 1] [(a, .inr (1, [.int (nI P), .int (nI Y), .int (nI o), .int (nI t), .int (nI n), .ref (r), .int (nI q), .long (lN S), .int (nI h)])), (r, .inl (cI, 16, .inl (fun zz => nI (F zz))))] (fun _ => rfl) [(a, .inr (1, [.int (nI P), .int (nI Y), .int (nI o), .int (nI t), .int (nI n), .ref (r), .int (nI q), .long (lN S), .int (nI h)])), (r, .inl (cI, 16, .inl (fun zz => nI (F zz))))] [a, r] rfl rfl rfl rfl rfl (by decide) (by decide) rfl (Nat.le_of_ble_eq_true rfl) dX1_rulesOf_19 (fun u_19 h_19 => ?_) rfl
        show J l _ D ε _ _ _ (.int (nI (b2n (decide ((F i) % 16 = pr)))) :: _)
        refine j_if_eq EE 28 dX1_rulesOf_22 (by decide) (fun c22 => ?_) (fun c22 => ?_)
        · skip
          have n22 : (b2n (decide ((F i) % 16 = pr))) = 0 := (nI_eq (a := (b2n (decide ((F i) % 16 = pr)))) (b := 0) (by have := b2n_lt (decide ((F i) % 16 = pr)); omega) (by have := b2n_lt (decide ((F i) % 16 = pr)); omega)).mp c22
          refine j_iinc (v := nI (i + 1)) EE 0 [(3, .int (nI (i + 1))), (2, _), (0, _), (1, _)] dX1_rulesOf_28 rfl (nI_1 i) (Nat.lt_of_lt_of_eq (by decide) hL.symm) rfl ?_
          refine j_goto EE 4 dX1_rulesOf_31 (by decide) ?_
          first | rw [show rcnt F pr i + 1 = rcnt F pr (i + 1) by simp [rcnt, b2d_1 n22]] | rw [show rcnt F pr i = rcnt F pr (i + 1) by simp [rcnt, b2d_0 n22]]
          exact ihp_4 (i + 1) (by omega) (by omega)
        · skip
          have n22 : (b2n (decide ((F i) % 16 = pr))) ≠ 0 := fun hq => c22 ((nI_eq (a := (b2n (decide ((F i) % 16 = pr)))) (b := 0) (by have := b2n_lt (decide ((F i) % 16 = pr)); omega) (by have := b2n_lt (decide ((F i) % 16 = pr)); omega)).mpr hq)
          refine j_iinc (v := nI (rcnt F pr i + 1)) EE 1 [(2, .int (nI (rcnt F pr i + 1))), (3, _), (0, _), (1, _)] dX1_rulesOf_25 rfl (nI_1 _) (Nat.lt_of_lt_of_eq (by decide) hL.symm) rfl ?_
          refine j_iinc (v := nI (i + 1)) EE 1 [(3, .int (nI (i + 1))), (2, _), (0, _), (1, _)] dX1_rulesOf_28 rfl (nI_1 i) (Nat.lt_of_lt_of_eq (by decide) hL.symm) rfl ?_
          refine j_goto EE 4 dX1_rulesOf_31 (by decide) ?_
          first | rw [show rcnt F pr i + 1 = rcnt F pr (i + 1) by simp [rcnt, b2d_1 n22]] | rw [show rcnt F pr i = rcnt F pr (i + 1) by simp [rcnt, b2d_0 n22]]
          exact ihp_4 (i + 1) (by omega) (by omega)
  refine j_iconst (v := nI 0) EE dX1_rulesOf_0 (by decide) ?_
  refine j_istore_n EE [(2, _), (0, _), (1, _)] dX1_rulesOf_1 rfl (Nat.lt_of_lt_of_eq (by decide) hL.symm) rfl ?_
  refine j_iconst (v := nI 0) EE dX1_rulesOf_2 (by decide) ?_
  refine j_istore_n EE [(3, _), (2, _), (0, _), (1, _)] dX1_rulesOf_3 rfl (Nat.lt_of_lt_of_eq (by decide) hL.symm) rfl ?_
  exact Lp_4 _ 0 (Nat.lt_succ_self _) (Nat.zero_le _)

theorem iw_X1_takeRule_X1 : ∀ w ∈ wsX10, w ∈ wsX1_takeRule := fun _ h => List.mem_cons_of_mem _ (List.mem_append_right _ h)
theorem lk_X1_takeRule_28 : Cond.fieldLink RX1 28 (TX1 4).1 (TX1 4).2.1 (TX1 4).2.2.1 ∈ wsX1_takeRule := List.mem_of_getElem? (i := 1) rfl
theorem lk_X1_takeRule_11 : Cond.fieldLink RX1 11 (TX1 5).1 (TX1 5).2.1 (TX1 5).2.2.1 ∈ wsX1_takeRule := List.mem_of_getElem? (i := 2) rfl
set_option maxHeartbeats 4000000 in
set_option maxRecDepth 100000 in
theorem c_X1_takeRule (a r P Y o t n q S h : Nat) (F : Nat → Nat) (k : Nat) (hn : n < 16) : Ct l yX1_takeRule wsX1_takeRule (rmD (0)) D [(cI, .int), (cC, .char), (cJ, .long), (cG, .object "PushdownGameSolver$Game")] [.ref (a), .int (nI k)] [(a, .inr (1, [.int (nI P), .int (nI Y), .int (nI o), .int (nI t), .int (nI n), .ref (r), .int (nI q), .long (lN S), .int (nI h)])), (r, .inl (cI, 16, .inl (fun zz => nI (F zz))))] (S := Unit) (fun _ => True) (fun _ => none) (fun _ => [(a, .inr (1, [.int (nI P), .int (nI Y), .int (nI o), .int (nI t), .int (nI (n + 1)), .ref (r), .int (nI q), .long (lN S), .int (nI h)])), (r, .inl (cI, 16, .inl (fun zz => nI (updN F n k zz))))]) := by
  refine Ct.of (lv := [(0, .ref (a)), (1, .int (nI k))]) (by decide) rfl (Nat.le_of_ble_eq_true rfl) rfl ?_
  intro ε hL EE FF
  refine j_aload_n EE 0 dX1_takeRule_0 rfl rfl ?_
  refine j_get (T := TX1) EE iw_X1_takeRule_X1 0 rfl rfl 4 (by decide) lk_X1_takeRule_28 rfl dX1_takeRule_1 ?_
  refine j_bipush (v := nI 16) EE dX1_takeRule_4 (by decide) ?_
  refine j_icmp_ge EE 29 dX1_takeRule_6 (by decide) (fun c6 => absurd ((nI_leI (a := 16) (b := n) (by omega) (by omega)).mp c6) (by omega)) (fun c6 => ?_)
  have n6 : ¬ 16 ≤ n := fun hq => c6 ((nI_leI (a := 16) (b := n) (by omega) (by omega)).mpr hq)
  refine j_aload_n EE 0 dX1_takeRule_9 rfl rfl ?_
  refine j_get (T := TX1) EE iw_X1_takeRule_X1 0 rfl rfl 5 (by decide) lk_X1_takeRule_11 rfl dX1_takeRule_10 ?_
  refine j_aload_n EE 0 dX1_takeRule_13 rfl rfl ?_
  refine j_get (T := TX1) EE iw_X1_takeRule_X1 0 rfl rfl 4 (by decide) lk_X1_takeRule_28 rfl dX1_takeRule_14 ?_
  refine j_iload_n EE 1 dX1_takeRule_17 rfl rfl ?_
  refine j_iast (ws' := [(a, .inr (1, [.int (nI P), .int (nI Y), .int (nI o), .int (nI t), .int (nI n), .ref (r), .int (nI q), .long (lN S), .int (nI h)])), (r, .inl (cI, 16, .inl (fun zz => nI ((updN F n k) zz))))]) EE 1 0 rfl rfl (vp_in_nI (n := n) (by omega) (by decide)) (by rw [nI_clamp (by omega), upd_N]; rfl) dX1_takeRule_18 ?_
  refine j_aload_n EE 0 dX1_takeRule_19 rfl rfl ?_
  refine j_dup EE rfl dX1_takeRule_20 ?_
  refine j_get (T := TX1) EE iw_X1_takeRule_X1 0 rfl rfl 4 (by decide) lk_X1_takeRule_28 rfl dX1_takeRule_21 ?_
  refine j_iconst (v := nI 1) EE dX1_takeRule_24 (by decide) ?_
  refine j_iadd EE dX1_takeRule_25 ?_
  refine j_topE (nI_add n 1) ?_
  refine j_put (T := TX1) (ws' := [(a, .inr (1, [.int (nI P), .int (nI Y), .int (nI o), .int (nI t), .int (nI (n + 1)), .ref (r), .int (nI q), .long (lN S), .int (nI h)])), (r, .inl (cI, 16, .inl (fun zz => nI ((updN F n k) zz))))]) EE iw_X1_takeRule_X1 tyX1 tyX1_ok nmX1 0 rfl rfl 4 (by decide) lk_X1_takeRule_28 rfl rfl rfl (Nat.le_of_ble_eq_true rfl) rfl dX1_takeRule_26 ?_
  exact j_vret EE FF dX1_takeRule_29 () trivial rfl rfl

theorem iw_X1_dropRule_X1 : ∀ w ∈ wsX10, w ∈ wsX1_dropRule := fun _ h => List.mem_cons_of_mem _ (List.mem_append_right _ h)
theorem lk_X1_dropRule_28 : Cond.fieldLink RX1 28 (TX1 4).1 (TX1 4).2.1 (TX1 4).2.2.1 ∈ wsX1_dropRule := List.mem_of_getElem? (i := 1) rfl
theorem lk_X1_dropRule_11 : Cond.fieldLink RX1 11 (TX1 5).1 (TX1 5).2.1 (TX1 5).2.2.1 ∈ wsX1_dropRule := List.mem_of_getElem? (i := 2) rfl
set_option maxHeartbeats 4000000 in
set_option maxRecDepth 100000 in
theorem c_X1_dropRule (a r P Y o t n q S h : Nat) (F : Nat → Nat) (j : Nat) (hj : j < n) (hn : n ≤ 16) : Ct l yX1_dropRule wsX1_dropRule (rmD (0)) D [(cI, .int), (cC, .char), (cJ, .long), (cG, .object "PushdownGameSolver$Game")] [.ref (a), .int (nI j)] [(a, .inr (1, [.int (nI P), .int (nI Y), .int (nI o), .int (nI t), .int (nI n), .ref (r), .int (nI q), .long (lN S), .int (nI h)])), (r, .inl (cI, 16, .inl (fun zz => nI (F zz))))] (S := Unit) (fun _ => True) (fun _ => none) (fun _ => [(a, .inr (1, [.int (nI P), .int (nI Y), .int (nI o), .int (nI t), .int (nI (n - 1)), .ref (r), .int (nI q), .long (lN S), .int (nI h)])), (r, .inl (cI, 16, .inl (fun zz => nI (drpN F j n zz))))]) := by
  refine Ct.of (lv := [(0, .ref (a)), (1, .int (nI j))]) (by decide) rfl (Nat.le_of_ble_eq_true rfl) rfl ?_
  intro ε hL EE FF
  have Lp_4 : ∀ (nf : Nat), ∀ (i : Nat), 17 - i < nf → (i ≤ n) → (j < i) → J l (rmD (0)) D ε [(a, .inr (1, [.int (nI P), .int (nI Y), .int (nI o), .int (nI t), .int (nI n), .ref (r), .int (nI q), .long (lN S), .int (nI h)])), (r, .inl (cI, 16, .inl (fun zz => nI (drpN F j i zz))))] 4 [(2, .int (nI i)), (0, .ref (a)), (1, .int (nI j))] [] := by
    intro nf
    induction nf with
    | zero => intro i hm; exact absurd hm (Nat.not_lt_zero _)
    | succ nf ihp_4 =>
      intro i hm4 hi hji
      refine j_iload_n EE 0 dX1_dropRule_4 rfl rfl ?_
      refine j_aload_n EE 1 dX1_dropRule_5 rfl rfl ?_
      refine j_get (T := TX1) EE iw_X1_dropRule_X1 0 rfl rfl 4 (by decide) lk_X1_dropRule_28 rfl dX1_dropRule_6 ?_
      refine j_icmp_ge EE 32 dX1_dropRule_9 (by decide) (fun c9 => ?_) (fun c9 => ?_)
      · skip
        have n9 : n ≤ i := (nI_leI (a := n) (b := i) (by omega) (by omega)).mp c9
        have hin : i = n := by omega
        refine j_aload_n EE 1 dX1_dropRule_32 rfl rfl ?_
        refine j_dup EE rfl dX1_dropRule_33 ?_
        refine j_get (T := TX1) EE iw_X1_dropRule_X1 0 rfl rfl 4 (by decide) lk_X1_dropRule_28 rfl dX1_dropRule_34 ?_
        refine j_iconst (v := nI 1) EE dX1_dropRule_37 (by decide) ?_
        refine j_isub EE dX1_dropRule_38 ?_
        refine j_topE (pk_sub (a := n) (b := 1) (by omega)) ?_
        refine j_put (T := TX1) (ws' := [(a, .inr (1, [.int (nI P), .int (nI Y), .int (nI o), .int (nI t), .int (nI (n - 1)), .ref (r), .int (nI q), .long (lN S), .int (nI h)])), (r, .inl (cI, 16, .inl (fun zz => nI (drpN F j i zz))))]) EE iw_X1_dropRule_X1 tyX1 tyX1_ok nmX1 0 rfl rfl 4 (by decide) lk_X1_dropRule_28 rfl rfl rfl (Nat.le_of_ble_eq_true rfl) rfl dX1_dropRule_39 ?_
        exact j_vret EE FF dX1_dropRule_42 () trivial rfl (by rw [hin])
      · skip
        have n9 : ¬ n ≤ i := fun hq => c9 ((nI_leI (a := n) (b := i) (by omega) (by omega)).mpr hq)
        refine j_aload_n EE 1 dX1_dropRule_12 rfl rfl ?_
        refine j_get (T := TX1) EE iw_X1_dropRule_X1 0 rfl rfl 5 (by decide) lk_X1_dropRule_11 rfl dX1_dropRule_13 ?_
        refine j_iload_n EE 0 dX1_dropRule_16 rfl rfl ?_
        refine j_iconst (v := nI 1) EE dX1_dropRule_17 (by decide) ?_
        refine j_isub EE dX1_dropRule_18 ?_
        refine j_topE (pk_sub (a := i) (b := 1) (by omega)) ?_
        refine j_aload_n EE 1 dX1_dropRule_19 rfl rfl ?_
        refine j_get (T := TX1) EE iw_X1_dropRule_X1 0 rfl rfl 5 (by decide) lk_X1_dropRule_11 rfl dX1_dropRule_20 ?_
        refine j_iload_n EE 0 dX1_dropRule_23 rfl rfl ?_
        refine j_iald EE 1 0 rfl rfl (vp_in_nI (n := i) (by omega) (by decide)) dX1_dropRule_24 ?_
        refine j_topE (congrArg (fun zz => nI (drpN F j i zz)) (nI_clamp (n := i) (by omega))) ?_
        refine j_topE (y := nI ((drpN F j i) i)) rfl ?_
        refine j_iast (ws' := [(a, .inr (1, [.int (nI P), .int (nI Y), .int (nI o), .int (nI t), .int (nI n), .ref (r), .int (nI q), .long (lN S), .int (nI h)])), (r, .inl (cI, 16, .inl (fun zz => nI (drpN F j (i + 1) zz))))]) EE 1 0 rfl rfl (vp_in_nI (n := i - 1) (by omega) (by decide)) (by rw [nI_clamp (by omega), upd_N, drp_s F j i hji]; rfl) dX1_dropRule_25 ?_
        refine j_iinc (v := nI (i + 1)) EE 0 [(2, .int (nI (i + 1))), (0, _), (1, _)] dX1_dropRule_26 rfl (nI_1 i) (Nat.lt_of_lt_of_eq (by decide) hL.symm) rfl ?_
        refine j_goto EE 4 dX1_dropRule_29 (by decide) ?_
        exact ihp_4 (i + 1) (by omega) (by omega) (by omega)
  refine j_iload_n EE 1 dX1_dropRule_0 rfl rfl ?_
  refine j_iconst (v := nI 1) EE dX1_dropRule_1 (by decide) ?_
  refine j_iadd EE dX1_dropRule_2 ?_
  refine j_topE (nI_add j 1) ?_
  refine j_istore_n EE [(2, _), (0, _), (1, _)] dX1_dropRule_3 rfl (Nat.lt_of_lt_of_eq (by decide) hL.symm) rfl ?_
  rw [← drp_0 F j]
  exact Lp_4 _ (j + 1) (Nat.lt_succ_self _) (by omega) (by omega)

theorem hd_X1_hasState : yX1_hasState.cls ≠ "java/lang/invoke/MethodHandle" ∧ yX1_hasState.cls ≠ "java/lang/invoke/VarHandle" ∧ (parseMethodDescriptor yX1_hasState.desc).map (fun d => d.parameters.length) = some 1 := by decide +kernel
theorem hd_X1_isWord : yX1_isWord.cls ≠ "java/lang/invoke/MethodHandle" ∧ yX1_isWord.cls ≠ "java/lang/invoke/VarHandle" ∧ (parseMethodDescriptor yX1_isWord.desc).map (fun d => d.parameters.length) = some 2 := by decide +kernel
theorem iw_X1_ruleError_X1 : ∀ w ∈ wsX10, w ∈ wsX1_ruleError := fun _ h => List.mem_cons_of_mem _ (List.mem_append_right _ h)
theorem lk_X1_ruleError_28 : Cond.fieldLink RX1 28 (TX1 4).1 (TX1 4).2.1 (TX1 4).2.2.1 ∈ wsX1_ruleError := List.mem_of_getElem? (i := 1) rfl
theorem hd_X1_rulesOf : yX1_rulesOf.cls ≠ "java/lang/invoke/MethodHandle" ∧ yX1_rulesOf.cls ≠ "java/lang/invoke/VarHandle" ∧ (parseMethodDescriptor yX1_rulesOf.desc).map (fun d => d.parameters.length) = some 1 := by decide +kernel
set_option maxHeartbeats 4000000 in
set_option maxRecDepth 100000 in
theorem c_X1_ruleError (a r P Y o t n q S h : Nat) (F : Nat → Nat) (x0 x1 x2 x3 x4 : Int32) (hP : P ≤ 4) (hY : Y ≤ 3) (hn : n ≤ 16) (hF : ∀ i, F i < 1024) : Ct l yX1_ruleError wsX1_ruleError (rmD (2)) D [(cI, .int), (cC, .char), (cJ, .long), (cG, .object "PushdownGameSolver$Game")] [.ref (a), .int (x0), .int (x1), .int (x2), .int (x3), .int (x4)] [(a, .inr (1, [.int (nI P), .int (nI Y), .int (nI o), .int (nI t), .int (nI n), .ref (r), .int (nI q), .long (lN S), .int (nI h)])), (r, .inl (cI, 16, .inl (fun zz => nI (F zz))))] (S := Unit) (fun _ => True) (fun _ => some (.int (rErr F n P Y x0 x1 x2 x3 x4))) (fun _ => [(a, .inr (1, [.int (nI P), .int (nI Y), .int (nI o), .int (nI t), .int (nI n), .ref (r), .int (nI q), .long (lN S), .int (nI h)])), (r, .inl (cI, 16, .inl (fun zz => nI (F zz))))]) := by
  refine Ct.of (lv := [(0, .ref (a)), (1, .int (x0)), (2, .int (x1)), (3, .int (x2)), (4, .int (x3)), (5, .int (x4))]) (by decide) rfl (Nat.le_of_ble_eq_true rfl) rfl ?_
  intro ε hL EE FF
  refine j_aload_n EE 0 dX1_ruleError_0 rfl rfl ?_
  refine j_iload_n EE 1 dX1_ruleError_1 rfl rfl ?_
  refine j_V2 (n9 := 2) EE (c_X1_hasState a r P Y o t n q S h F x0 (by omega)) gX1_ruleError_X1_hasState ⟨rfl, hd_X1_hasState⟩ rfl ⟨rfl, rfl⟩ ⟨by decide, by decide⟩ rfl [0, 1] rfl [] [(a, .inr (1, [.int (nI P), .int (nI Y), .int (nI o), .int (nI t), .int (nI n), .ref (r), .int (nI q), .long (lN S), .int (nI h)])), (r, .inl (cI, 16, .inl (fun zz => nI (F zz))))] (fun _ => rfl) [] [a, r] rfl rfl rfl rfl rfl (by decide) (by decide) 0 rfl rfl rfl (Nat.le_of_ble_eq_true rfl) dX1_ruleError_2 (fun u_2 h_2 => ?_) rfl
  show J l _ D ε _ _ _ (.int (nI (b2n (inR x0 P))) :: _)
  refine j_if_eq EE 35 dX1_ruleError_5 (by decide) (fun c5 => ?_) (fun c5 => ?_)
  · skip
    have n5 : (b2n (inR x0 P)) = 0 := (nI_eq (a := (b2n (inR x0 P))) (b := 0) (by have := b2n_lt (inR x0 P); omega) (by have := b2n_lt (inR x0 P); omega)).mp c5
    have m5 := b2n_0 n5
    refine j_iconst (v := (-1)) EE dX1_ruleError_35 (by decide) ?_
    exact j_iret EE FF dX1_ruleError_36 () trivial (by simp [rErr, *]) rfl
  · skip
    have n5 : (b2n (inR x0 P)) ≠ 0 := fun hq => c5 ((nI_eq (a := (b2n (inR x0 P))) (b := 0) (by have := b2n_lt (inR x0 P); omega) (by have := b2n_lt (inR x0 P); omega)).mpr hq)
    have m5 := b2n_ne0 n5
    obtain ⟨j0, hj0, rfl⟩ := inR_ex (by omega) m5
    refine j_aload_n EE 0 dX1_ruleError_8 rfl rfl ?_
    refine j_iload_n EE 2 dX1_ruleError_9 rfl rfl ?_
    refine j_V2 (n9 := 2) EE (c_X1_hasSymbol a r P Y o t n q S h F x1 (by omega)) gX1_ruleError_X1_hasSymbol ⟨rfl, hd_X1_hasSymbol⟩ rfl ⟨rfl, rfl⟩ ⟨by decide, by decide⟩ rfl [0, 1] rfl [] [(a, .inr (1, [.int (nI P), .int (nI Y), .int (nI o), .int (nI t), .int (nI n), .ref (r), .int (nI q), .long (lN S), .int (nI h)])), (r, .inl (cI, 16, .inl (fun zz => nI (F zz))))] (fun _ => rfl) [] [a, r] rfl rfl rfl rfl rfl (by decide) (by decide) 0 rfl rfl rfl (Nat.le_of_ble_eq_true rfl) dX1_ruleError_10 (fun u_10 h_10 => ?_) rfl
    show J l _ D ε _ _ _ (.int (nI (b2n (inR x1 Y))) :: _)
    refine j_if_eq EE 35 dX1_ruleError_13 (by decide) (fun c13 => ?_) (fun c13 => ?_)
    · skip
      have n13 : (b2n (inR x1 Y)) = 0 := (nI_eq (a := (b2n (inR x1 Y))) (b := 0) (by have := b2n_lt (inR x1 Y); omega) (by have := b2n_lt (inR x1 Y); omega)).mp c13
      have m13 := b2n_0 n13
      refine j_iconst (v := (-1)) EE dX1_ruleError_35 (by decide) ?_
      exact j_iret EE FF dX1_ruleError_36 () trivial (by simp [rErr, *]) rfl
    · skip
      have n13 : (b2n (inR x1 Y)) ≠ 0 := fun hq => c13 ((nI_eq (a := (b2n (inR x1 Y))) (b := 0) (by have := b2n_lt (inR x1 Y); omega) (by have := b2n_lt (inR x1 Y); omega)).mpr hq)
      have m13 := b2n_ne0 n13
      obtain ⟨j1, hj1, rfl⟩ := inR_ex (by omega) m13
      have hcl0 := nI_clamp (n := j0) (by omega)
      have hcl1 := nI_clamp (n := j1) (by omega)
      refine j_aload_n EE 0 dX1_ruleError_16 rfl rfl ?_
      refine j_iload_n EE 3 dX1_ruleError_17 rfl rfl ?_
      refine j_V2 (n9 := 2) EE (c_X1_hasState a r P Y o t n q S h F x2 (by omega)) gX1_ruleError_X1_hasState ⟨rfl, hd_X1_hasState⟩ rfl ⟨rfl, rfl⟩ ⟨by decide, by decide⟩ rfl [0, 1] rfl [] [(a, .inr (1, [.int (nI P), .int (nI Y), .int (nI o), .int (nI t), .int (nI n), .ref (r), .int (nI q), .long (lN S), .int (nI h)])), (r, .inl (cI, 16, .inl (fun zz => nI (F zz))))] (fun _ => rfl) [] [a, r] rfl rfl rfl rfl rfl (by decide) (by decide) 0 rfl rfl rfl (Nat.le_of_ble_eq_true rfl) dX1_ruleError_18 (fun u_18 h_18 => ?_) rfl
      show J l _ D ε _ _ _ (.int (nI (b2n (inR x2 P))) :: _)
      refine j_if_eq EE 35 dX1_ruleError_21 (by decide) (fun c21 => ?_) (fun c21 => ?_)
      · skip
        have n21 : (b2n (inR x2 P)) = 0 := (nI_eq (a := (b2n (inR x2 P))) (b := 0) (by have := b2n_lt (inR x2 P); omega) (by have := b2n_lt (inR x2 P); omega)).mp c21
        have m21 := b2n_0 n21
        refine j_iconst (v := (-1)) EE dX1_ruleError_35 (by decide) ?_
        exact j_iret EE FF dX1_ruleError_36 () trivial (by simp [rErr, *]) rfl
      · skip
        have n21 : (b2n (inR x2 P)) ≠ 0 := fun hq => c21 ((nI_eq (a := (b2n (inR x2 P))) (b := 0) (by have := b2n_lt (inR x2 P); omega) (by have := b2n_lt (inR x2 P); omega)).mpr hq)
        have m21 := b2n_ne0 n21
        refine j_aload_n EE 0 dX1_ruleError_24 rfl rfl ?_
        refine j_iload EE 4 dX1_ruleError_25 rfl ?_
        refine j_iload EE 5 dX1_ruleError_27 rfl ?_
        refine j_V2 (n9 := 2) EE (c_X1_isWord a r P Y o t n q S h F x3 x4 (by omega)) gX1_ruleError_X1_isWord ⟨rfl, hd_X1_isWord⟩ rfl ⟨rfl, rfl⟩ ⟨by decide, by decide⟩ rfl [0, 1] rfl [] [(a, .inr (1, [.int (nI P), .int (nI Y), .int (nI o), .int (nI t), .int (nI n), .ref (r), .int (nI q), .long (lN S), .int (nI h)])), (r, .inl (cI, 16, .inl (fun zz => nI (F zz))))] (fun _ => rfl) [] [a, r] rfl rfl rfl rfl rfl (by decide) (by decide) 0 rfl rfl rfl (Nat.le_of_ble_eq_true rfl) dX1_ruleError_29 (fun u_29 h_29 => ?_) rfl
        show J l _ D ε _ _ _ (.int (nI (b2n (isW x3 x4 Y))) :: _)
        refine j_if_ne EE 37 dX1_ruleError_32 (by decide) (fun c32 => ?_) (fun c32 => ?_)
        · skip
          have n32 : (b2n (isW x3 x4 Y)) ≠ 0 := fun hq => c32 ((nI_eq (a := (b2n (isW x3 x4 Y))) (b := 0) (by have := b2n_lt (isW x3 x4 Y); omega) (by have := b2n_lt (isW x3 x4 Y); omega)).mpr hq)
          have m32 := b2n_ne0 n32
          refine j_aload_n EE 0 dX1_ruleError_37 rfl rfl ?_
          refine j_get (T := TX1) EE iw_X1_ruleError_X1 0 rfl rfl 4 (by decide) lk_X1_ruleError_28 rfl dX1_ruleError_38 ?_
          refine j_bipush (v := nI 16) EE dX1_ruleError_41 (by decide) ?_
          refine j_icmp_ge EE 59 dX1_ruleError_43 (by decide) (fun c43 => ?_) (fun c43 => ?_)
          · skip
            have n43 : 16 ≤ n := (nI_leI (a := 16) (b := n) (by omega) (by omega)).mp c43
            refine j_bipush (v := (-3)) EE dX1_ruleError_59 (by decide) ?_
            exact j_iret EE FF dX1_ruleError_61 () trivial (by have h9 : 16 ≤ n ∨ 3 ≤ rcnt F (j0 + 4 * j1) n := (by omega); simp only [rErr, hcl0, hcl1, m5, m13, m21, m32, Bool.and_self, if_true, if_pos h9]) rfl
          · skip
            have n43 : ¬ 16 ≤ n := fun hq => c43 ((nI_leI (a := 16) (b := n) (by omega) (by omega)).mpr hq)
            refine j_aload_n EE 0 dX1_ruleError_46 rfl rfl ?_
            refine j_iload_n EE 1 dX1_ruleError_47 rfl rfl ?_
            refine j_iload_n EE 2 dX1_ruleError_48 rfl rfl ?_
            refine j_S2 (n9 := 2) EE (c_X4_of j0 j1 (by omega) (by omega)) gX1_ruleError_X4_of hd_X4_of rfl ⟨rfl, rfl⟩ ⟨by decide, by decide⟩ rfl [] rfl [0, 1] [(a, .inr (1, [.int (nI P), .int (nI Y), .int (nI o), .int (nI t), .int (nI n), .ref (r), .int (nI q), .long (lN S), .int (nI h)])), (r, .inl (cI, 16, .inl (fun zz => nI (F zz))))] (fun _ => rfl) [(a, .inr (1, [.int (nI P), .int (nI Y), .int (nI o), .int (nI t), .int (nI n), .ref (r), .int (nI q), .long (lN S), .int (nI h)])), (r, .inl (cI, 16, .inl (fun zz => nI (F zz))))] [a, r] rfl rfl rfl rfl rfl (by decide) (by decide) rfl (Nat.le_of_ble_eq_true rfl) dX1_ruleError_49 (fun u_49 h_49 => ?_) rfl
            show J l _ D ε _ _ _ (.int (nI (j0 + 4 * j1)) :: _)
            refine j_V2 (n9 := 2) EE (c_X1_rulesOf a r P Y o t n q S h F (j0 + 4 * j1) (by omega) (by omega) hF) gX1_ruleError_X1_rulesOf ⟨rfl, hd_X1_rulesOf⟩ rfl ⟨rfl, rfl⟩ ⟨by decide, by decide⟩ rfl [0, 1] rfl [] [(a, .inr (1, [.int (nI P), .int (nI Y), .int (nI o), .int (nI t), .int (nI n), .ref (r), .int (nI q), .long (lN S), .int (nI h)])), (r, .inl (cI, 16, .inl (fun zz => nI (F zz))))] (fun _ => rfl) [] [a, r] rfl rfl rfl rfl rfl (by decide) (by decide) 0 rfl rfl rfl (Nat.le_of_ble_eq_true rfl) dX1_ruleError_52 (fun u_52 h_52 => ?_) rfl
            show J l _ D ε _ _ _ (.int (nI (rcnt F (j0 + 4 * j1) n)) :: _)
            refine j_iconst (v := nI 3) EE dX1_ruleError_55 (by decide) ?_
            refine j_icmp_lt EE 62 dX1_ruleError_56 (by decide) (fun c56 => ?_) (fun c56 => ?_)
            · skip
              have n56 : (rcnt F (j0 + 4 * j1) n) < 3 := (nI_ltI (a := (rcnt F (j0 + 4 * j1) n)) (b := 3) (by have := rcnt_le F (j0 + 4 * j1) n; omega) (by have := rcnt_le F (j0 + 4 * j1) n; omega)).mp c56
              refine j_iconst (v := nI 0) EE dX1_ruleError_62 (by decide) ?_
              exact j_iret EE FF dX1_ruleError_63 () trivial (by have h9 : ¬ (16 ≤ n ∨ 3 ≤ rcnt F (j0 + 4 * j1) n) := (by omega); simp only [rErr, hcl0, hcl1, m5, m13, m21, m32, Bool.and_self, if_true, if_neg h9]) rfl
            · skip
              have n56 : ¬ (rcnt F (j0 + 4 * j1) n) < 3 := fun hq => c56 ((nI_ltI (a := (rcnt F (j0 + 4 * j1) n)) (b := 3) (by have := rcnt_le F (j0 + 4 * j1) n; omega) (by have := rcnt_le F (j0 + 4 * j1) n; omega)).mpr hq)
              refine j_bipush (v := (-3)) EE dX1_ruleError_59 (by decide) ?_
              exact j_iret EE FF dX1_ruleError_61 () trivial (by have h9 : 16 ≤ n ∨ 3 ≤ rcnt F (j0 + 4 * j1) n := (by omega); simp only [rErr, hcl0, hcl1, m5, m13, m21, m32, Bool.and_self, if_true, if_pos h9]) rfl
        · skip
          have n32 : (b2n (isW x3 x4 Y)) = 0 := (nI_eq (a := (b2n (isW x3 x4 Y))) (b := 0) (by have := b2n_lt (isW x3 x4 Y); omega) (by have := b2n_lt (isW x3 x4 Y); omega)).mp c32
          have m32 := b2n_0 n32
          refine j_iconst (v := (-1)) EE dX1_ruleError_35 (by decide) ?_
          exact j_iret EE FF dX1_ruleError_36 () trivial (by simp [rErr, *]) rfl

end G_23_game
