section G_22_leaves
variable {l : Launch} {D : va_G} {cI cC cJ cG : ClassId}

set_option maxHeartbeats 4000000 in
set_option maxRecDepth 100000 in
theorem c_X4_of (p y : Nat) (hp : p < 4) (hy : y < 4) : Ct l yX4_of wsX4_of (rmD (0)) D [(cI, .int), (cC, .char), (cJ, .long), (cG, .object "PushdownGameSolver$Game")] [.int (nI p), .int (nI y)] [] (S := Unit) (fun _ => True) (fun _ => some (.int (nI (p + 4 * y)))) (fun _ => []) := by
  refine Ct.of (lv := [(0, .int (nI p)), (1, .int (nI y))]) (by decide) rfl (Nat.le_of_ble_eq_true rfl) rfl ?_
  intro ε hL EE FF
  refine j_iload_n EE 0 dX4_of_0 rfl rfl ?_
  refine j_iconst (v := nI 3) EE dX4_of_1 (by decide) ?_
  refine j_iand EE dX4_of_2 ?_
  refine j_iload_n EE 1 dX4_of_3 rfl rfl ?_
  refine j_iconst (v := nI 3) EE dX4_of_4 (by decide) ?_
  refine j_iand EE dX4_of_5 ?_
  refine j_iconst (v := nI 2) EE dX4_of_6 (by decide) ?_
  refine j_ishl EE dX4_of_7 ?_
  refine j_ior EE dX4_of_8 ?_
  refine j_topE (y := nI (p + 4 * y)) (b_pair p hp y hy) ?_
  exact j_iret EE FF dX4_of_9 () trivial (by first | rfl | simp_all) rfl

set_option maxHeartbeats 4000000 in
set_option maxRecDepth 100000 in
theorem c_X5_of (a b c u v : Nat) (ha : a < 4) (hb : b < 4) (hc : c < 4) (hu : u < 4) (hv : v < 4) : Ct l yX5_of wsX5_of (rmD (0)) D [(cI, .int), (cC, .char), (cJ, .long), (cG, .object "PushdownGameSolver$Game")] [.int (nI a), .int (nI b), .int (nI c), .int (nI u - nI 1), .int (nI v - nI 1)] [] (S := Unit) (fun _ => True) (fun _ => some (.int (nI (rcode a b c u v)))) (fun _ => []) := by
  refine Ct.of (lv := [(0, .int (nI a)), (1, .int (nI b)), (2, .int (nI c)), (3, .int (nI u - nI 1)), (4, .int (nI v - nI 1))]) (by decide) rfl (Nat.le_of_ble_eq_true rfl) rfl ?_
  intro ε hL EE FF
  refine j_iload_n EE 0 dX5_of_0 rfl rfl ?_
  refine j_iload_n EE 1 dX5_of_1 rfl rfl ?_
  refine j_iconst (v := nI 2) EE dX5_of_2 (by decide) ?_
  refine j_ishl EE dX5_of_3 ?_
  refine j_ior EE dX5_of_4 ?_
  refine j_iload_n EE 2 dX5_of_5 rfl rfl ?_
  refine j_iconst (v := nI 4) EE dX5_of_6 (by decide) ?_
  refine j_ishl EE dX5_of_7 ?_
  refine j_ior EE dX5_of_8 ?_
  refine j_iload_n EE 3 dX5_of_9 rfl rfl ?_
  refine j_iconst (v := nI 1) EE dX5_of_10 (by decide) ?_
  refine j_iadd EE dX5_of_11 ?_
  refine j_bipush (v := nI 6) EE dX5_of_12 (by decide) ?_
  refine j_ishl EE dX5_of_14 ?_
  refine j_ior EE dX5_of_15 ?_
  refine j_iload EE 4 dX5_of_16 rfl ?_
  refine j_iconst (v := nI 1) EE dX5_of_18 (by decide) ?_
  refine j_iadd EE dX5_of_19 ?_
  refine j_bipush (v := nI 8) EE dX5_of_20 (by decide) ?_
  refine j_ishl EE dX5_of_22 ?_
  refine j_ior EE dX5_of_23 ?_
  refine j_topE (y := nI (rcode a b c u v)) (b_rcode a ha b hb c hc u hu v hv) ?_
  exact j_iret EE FF dX5_of_24 () trivial (by first | rfl | simp_all) rfl

set_option maxHeartbeats 4000000 in
set_option maxRecDepth 100000 in
theorem c_X5_state (k : Nat) (hk : k < 1024) : Ct l yX5_state wsX5_state (rmD (0)) D [(cI, .int), (cC, .char), (cJ, .long), (cG, .object "PushdownGameSolver$Game")] [.int (nI k)] [] (S := Unit) (fun _ => True) (fun _ => some (.int (nI (k % 4)))) (fun _ => []) := by
  refine Ct.of (lv := [(0, .int (nI k))]) (by decide) rfl (Nat.le_of_ble_eq_true rfl) rfl ?_
  intro ε hL EE FF
  refine j_iload_n EE 0 dX5_state_0 rfl rfl ?_
  refine j_iconst (v := nI 3) EE dX5_state_1 (by decide) ?_
  refine j_iand EE dX5_state_2 ?_
  refine j_topE (y := nI (k % 4)) (b_and3 hk) ?_
  exact j_iret EE FF dX5_state_3 () trivial (by first | rfl | simp_all) rfl

set_option maxHeartbeats 4000000 in
set_option maxRecDepth 100000 in
theorem c_X5_top (k : Nat) (hk : k < 1024) : Ct l yX5_top wsX5_top (rmD (0)) D [(cI, .int), (cC, .char), (cJ, .long), (cG, .object "PushdownGameSolver$Game")] [.int (nI k)] [] (S := Unit) (fun _ => True) (fun _ => some (.int (nI (k / 4 % 4)))) (fun _ => []) := by
  refine Ct.of (lv := [(0, .int (nI k))]) (by decide) rfl (Nat.le_of_ble_eq_true rfl) rfl ?_
  intro ε hL EE FF
  refine j_iload_n EE 0 dX5_top_0 rfl rfl ?_
  refine j_iconst (v := nI 2) EE dX5_top_1 (by decide) ?_
  refine j_ishr EE dX5_top_2 ?_
  refine j_iconst (v := nI 3) EE dX5_top_3 (by decide) ?_
  refine j_iand EE dX5_top_4 ?_
  refine j_topE (y := nI (k / 4 % 4)) (b_top hk) ?_
  exact j_iret EE FF dX5_top_5 () trivial (by first | rfl | simp_all) rfl

set_option maxHeartbeats 4000000 in
set_option maxRecDepth 100000 in
theorem c_X5_next (k : Nat) (hk : k < 1024) : Ct l yX5_next wsX5_next (rmD (0)) D [(cI, .int), (cC, .char), (cJ, .long), (cG, .object "PushdownGameSolver$Game")] [.int (nI k)] [] (S := Unit) (fun _ => True) (fun _ => some (.int (nI (k / 16 % 4)))) (fun _ => []) := by
  refine Ct.of (lv := [(0, .int (nI k))]) (by decide) rfl (Nat.le_of_ble_eq_true rfl) rfl ?_
  intro ε hL EE FF
  refine j_iload_n EE 0 dX5_next_0 rfl rfl ?_
  refine j_iconst (v := nI 4) EE dX5_next_1 (by decide) ?_
  refine j_ishr EE dX5_next_2 ?_
  refine j_iconst (v := nI 3) EE dX5_next_3 (by decide) ?_
  refine j_iand EE dX5_next_4 ?_
  refine j_topE (y := nI (k / 16 % 4)) (b_next hk) ?_
  exact j_iret EE FF dX5_next_5 () trivial (by first | rfl | simp_all) rfl

set_option maxHeartbeats 4000000 in
set_option maxRecDepth 100000 in
theorem c_X5_upper (k : Nat) (hk : k < 1024) : Ct l yX5_upper wsX5_upper (rmD (0)) D [(cI, .int), (cC, .char), (cJ, .long), (cG, .object "PushdownGameSolver$Game")] [.int (nI k)] [] (S := Unit) (fun _ => True) (fun _ => some (.int (nI (k / 64 % 4) - nI 1))) (fun _ => []) := by
  refine Ct.of (lv := [(0, .int (nI k))]) (by decide) rfl (Nat.le_of_ble_eq_true rfl) rfl ?_
  intro ε hL EE FF
  refine j_iload_n EE 0 dX5_upper_0 rfl rfl ?_
  refine j_bipush (v := nI 6) EE dX5_upper_1 (by decide) ?_
  refine j_ishr EE dX5_upper_3 ?_
  refine j_iconst (v := nI 3) EE dX5_upper_4 (by decide) ?_
  refine j_iand EE dX5_upper_5 ?_
  refine j_topE (y := nI (k / 64 % 4)) (b_upper hk) ?_
  refine j_iconst (v := nI 1) EE dX5_upper_6 (by decide) ?_
  refine j_isub EE dX5_upper_7 ?_
  refine j_topE (y := nI (k / 64 % 4) - nI 1) rfl ?_
  exact j_iret EE FF dX5_upper_8 () trivial (by first | rfl | simp_all) rfl

set_option maxHeartbeats 4000000 in
set_option maxRecDepth 100000 in
theorem c_X5_lower (k : Nat) (hk : k < 1024) : Ct l yX5_lower wsX5_lower (rmD (0)) D [(cI, .int), (cC, .char), (cJ, .long), (cG, .object "PushdownGameSolver$Game")] [.int (nI k)] [] (S := Unit) (fun _ => True) (fun _ => some (.int (nI (k / 256 % 4) - nI 1))) (fun _ => []) := by
  refine Ct.of (lv := [(0, .int (nI k))]) (by decide) rfl (Nat.le_of_ble_eq_true rfl) rfl ?_
  intro ε hL EE FF
  refine j_iload_n EE 0 dX5_lower_0 rfl rfl ?_
  refine j_bipush (v := nI 8) EE dX5_lower_1 (by decide) ?_
  refine j_ishr EE dX5_lower_3 ?_
  refine j_iconst (v := nI 3) EE dX5_lower_4 (by decide) ?_
  refine j_iand EE dX5_lower_5 ?_
  refine j_topE (y := nI (k / 256 % 4)) (b_lower hk) ?_
  refine j_iconst (v := nI 1) EE dX5_lower_6 (by decide) ?_
  refine j_isub EE dX5_lower_7 ?_
  refine j_topE (y := nI (k / 256 % 4) - nI 1) rfl ?_
  exact j_iret EE FF dX5_lower_8 () trivial (by first | rfl | simp_all) rfl

set_option maxHeartbeats 4000000 in
set_option maxRecDepth 100000 in
theorem c_X5_fitsPair (k q : Nat) (hk : k < 1024) (hq : q < 16) : Ct l yX5_fitsPair wsX5_fitsPair (rmD (0)) D [(cI, .int), (cC, .char), (cJ, .long), (cG, .object "PushdownGameSolver$Game")] [.int (nI k), .int (nI q)] [] (S := Unit) (fun _ => True) (fun _ => some (.int (nI (b2n (decide (k % 16 = q)))))) (fun _ => []) := by
  refine Ct.of (lv := [(0, .int (nI k)), (1, .int (nI q))]) (by decide) rfl (Nat.le_of_ble_eq_true rfl) rfl ?_
  intro ε hL EE FF
  refine j_iload_n EE 0 dX5_fitsPair_0 rfl rfl ?_
  refine j_bipush (v := nI 15) EE dX5_fitsPair_1 (by decide) ?_
  refine j_iand EE dX5_fitsPair_3 ?_
  refine j_topE (y := nI (k % 16)) (b_and15 hk) ?_
  refine j_iload_n EE 1 dX5_fitsPair_4 rfl rfl ?_
  refine j_icmp_ne EE 12 dX5_fitsPair_5 (by decide) (fun c5 => ?_) (fun c5 => ?_)
  · skip
    have n5 : (k % 16) ≠ q := fun hq => c5 ((nI_eq (a := (k % 16)) (b := q) (by omega) (by omega)).mpr hq)
    refine j_iconst (v := nI 0) EE dX5_fitsPair_12 (by decide) ?_
    exact j_zret EE FF (by decide) dX5_fitsPair_13 () trivial (by first | rw [decide_eq_true n5]; rfl | rw [decide_eq_false n5]; rfl) rfl
  · skip
    have n5 : (k % 16) = q := (nI_eq (a := (k % 16)) (b := q) (by omega) (by omega)).mp c5
    refine j_iconst (v := nI 1) EE dX5_fitsPair_8 (by decide) ?_
    refine j_goto EE 13 dX5_fitsPair_9 (by decide) ?_
    exact j_zret EE FF (by decide) dX5_fitsPair_13 () trivial (by first | rw [decide_eq_true n5]; rfl | rw [decide_eq_false n5]; rfl) rfl

set_option maxHeartbeats 4000000 in
set_option maxRecDepth 100000 in
theorem c_X7_symbolAt (S d : Nat) (hS : S < 2 ^ 62) (hd : d < 24) : Ct l yX7_symbolAt wsX7_symbolAt (rmD (0)) D [(cI, .int), (cC, .char), (cJ, .long), (cG, .object "PushdownGameSolver$Game")] [.long (lN S), .int (nI d)] [] (S := Unit) (fun _ => True) (fun _ => some (.int (nI (S / 4 ^ d % 4)))) (fun _ => []) := by
  refine Ct.of (lv := [(0, .long (lN S)), (2, .int (nI d))]) (by decide) rfl (Nat.le_of_ble_eq_true rfl) rfl ?_
  intro ε hL EE FF
  refine j_lload_n EE 0 dX7_symbolAt_0 rfl rfl ?_
  refine j_iconst (v := nI 2) EE dX7_symbolAt_1 (by decide) ?_
  refine j_iload_n EE 1 dX7_symbolAt_2 rfl rfl ?_
  refine j_imul EE dX7_symbolAt_3 ?_
  refine j_topE (pk_mul 2 d) ?_
  refine j_lushr (v := lN (S / 4 ^ d)) EE (b_lushr hS hd) dX7_symbolAt_4 ?_
  refine j_l2i EE dX7_symbolAt_5 ?_
  refine j_iconst (v := nI 3) EE dX7_symbolAt_6 (by decide) ?_
  refine j_iand EE dX7_symbolAt_7 ?_
  refine j_topE (y := nI (S / 4 ^ d % 4)) b_l2i ?_
  exact j_iret EE FF dX7_symbolAt_8 () trivial (by first | rfl | simp_all) rfl

set_option maxHeartbeats 4000000 in
set_option maxRecDepth 100000 in
theorem c_X7_pushed (S y : Nat) (hS : S < 2 ^ 60) (hy : y < 4) : Ct l yX7_pushed wsX7_pushed (rmD (0)) D [(cI, .int), (cC, .char), (cJ, .long), (cG, .object "PushdownGameSolver$Game")] [.long (lN S), .int (nI y)] [] (S := Unit) (fun _ => True) (fun _ => some (.long (lN (4 * S + y)))) (fun _ => []) := by
  refine Ct.of (lv := [(0, .long (lN S)), (2, .int (nI y))]) (by decide) rfl (Nat.le_of_ble_eq_true rfl) rfl ?_
  intro ε hL EE FF
  refine j_lload_n EE 0 dX7_pushed_0 rfl rfl ?_
  refine j_iconst (v := nI 2) EE dX7_pushed_1 (by decide) ?_
  refine j_lshl (v := lN S <<< ((nI 2).toInt64 &&& 63)) EE rfl dX7_pushed_2 ?_
  refine j_iload_n EE 1 dX7_pushed_3 rfl rfl ?_
  refine j_i2l EE dX7_pushed_4 ?_
  refine j_lor EE dX7_pushed_5 ?_
  refine j_topEl (y := lN (4 * S + y)) (b_push hS hy) ?_
  exact j_lret EE FF dX7_pushed_6 () trivial (by first | rfl | simp_all) rfl

set_option maxHeartbeats 4000000 in
set_option maxRecDepth 100000 in
theorem c_X9_bit (m i : Nat) (hm : m < 2 ^ 31) (hi : i < 31) : Ct l yX9_bit wsX9_bit (rmD (0)) D [(cI, .int), (cC, .char), (cJ, .long), (cG, .object "PushdownGameSolver$Game")] [.int (nI m), .int (nI i)] [] (S := Unit) (fun _ => True) (fun _ => some (.int (nI (bt m i)))) (fun _ => []) := by
  refine Ct.of (lv := [(0, .int (nI m)), (1, .int (nI i))]) (by decide) rfl (Nat.le_of_ble_eq_true rfl) rfl ?_
  intro ε hL EE FF
  refine j_iload_n EE 0 dX9_bit_0 rfl rfl ?_
  refine j_iload_n EE 1 dX9_bit_1 rfl rfl ?_
  refine j_ishr EE dX9_bit_2 ?_
  refine j_iconst (v := nI 1) EE dX9_bit_3 (by decide) ?_
  refine j_iand EE dX9_bit_4 ?_
  refine j_topE (y := nI (bt m i)) (b_bit hm hi) ?_
  exact j_iret EE FF dX9_bit_5 () trivial (by first | rfl | simp_all) rfl

set_option maxHeartbeats 4000000 in
set_option maxRecDepth 100000 in
theorem c_X9_withBit (m i b : Nat) (hm : m < 16) (hi : i < 4) (hb : b < 2) : Ct l yX9_withBit wsX9_withBit (rmD (0)) D [(cI, .int), (cC, .char), (cJ, .long), (cG, .object "PushdownGameSolver$Game")] [.int (nI m), .int (nI i), .int (nI b)] [] (S := Unit) (fun _ => True) (fun _ => some (.int (nI (wbit m i b)))) (fun _ => []) := by
  refine Ct.of (lv := [(0, .int (nI m)), (1, .int (nI i)), (2, .int (nI b))]) (by decide) rfl (Nat.le_of_ble_eq_true rfl) rfl ?_
  intro ε hL EE FF
  refine j_iload_n EE 2 dX9_withBit_0 rfl rfl ?_
  refine j_if_eq EE 12 dX9_withBit_1 (by decide) (fun c1 => ?_) (fun c1 => ?_)
  · skip
    have n1 : b = 0 := (nI_eq (a := b) (b := 0) (by omega) (by omega)).mp c1
    refine j_iload_n EE 0 dX9_withBit_12 rfl rfl ?_
    refine j_iconst (v := nI 1) EE dX9_withBit_13 (by decide) ?_
    refine j_iload_n EE 1 dX9_withBit_14 rfl rfl ?_
    refine j_ishl EE dX9_withBit_15 ?_
    refine j_iconst (v := (-1)) EE dX9_withBit_16 (by decide) ?_
    refine j_ixor EE dX9_withBit_17 ?_
    refine j_iand EE dX9_withBit_18 ?_
    refine j_topE (y := nI (wbit m i b)) (by subst n1; exact b_wclr m hm i hi) ?_
    exact j_iret EE FF dX9_withBit_19 () trivial (by first | rfl | simp_all) rfl
  · skip
    have n1 : b ≠ 0 := fun hq => c1 ((nI_eq (a := b) (b := 0) (by omega) (by omega)).mpr hq)
    refine j_iload_n EE 0 dX9_withBit_4 rfl rfl ?_
    refine j_iconst (v := nI 1) EE dX9_withBit_5 (by decide) ?_
    refine j_iload_n EE 1 dX9_withBit_6 rfl rfl ?_
    refine j_ishl EE dX9_withBit_7 ?_
    refine j_ior EE dX9_withBit_8 ?_
    refine j_topE (y := nI (wbit m i b)) (by (have hb1 : b = 1 := by omega); subst hb1; exact b_wset m hm i hi) ?_
    refine j_goto EE 19 dX9_withBit_9 (by decide) ?_
    exact j_iret EE FF dX9_withBit_19 () trivial (by first | rfl | simp_all) rfl

set_option maxHeartbeats 4000000 in
set_option maxRecDepth 100000 in
theorem c_X10_in (v lo hi : Int64) : Ct l yX10_in wsX10_in (rmD (0)) D [(cI, .int), (cC, .char), (cJ, .long), (cG, .object "PushdownGameSolver$Game")] [.long (v), .long (lo), .long (hi)] [] (S := Unit) (fun _ => True) (fun _ => some (.int (if lo ≤ v ∧ v ≤ hi then nI 1 else nI 0))) (fun _ => []) := by
  refine Ct.of (lv := [(0, .long (v)), (2, .long (lo)), (4, .long (hi))]) (by decide) rfl (Nat.le_of_ble_eq_true rfl) rfl ?_
  intro ε hL EE FF
  refine j_lload_n EE 0 dX10_in_0 rfl rfl ?_
  refine j_lload_n EE 1 dX10_in_1 rfl rfl ?_
  refine j_lcmp EE dX10_in_2 ?_
  refine j_if_lt EE 17 dX10_in_3 (by decide) (fun c3 => ?_) (fun c3 => ?_)
  · skip
    refine j_iconst (v := nI 0) EE dX10_in_17 (by decide) ?_
    exact j_zret EE FF (by decide) dX10_in_18 () trivial (by simp only [lg_cmp_lt, lg_cmp_gt, Int64.lt_iff_toInt_lt, Int64.le_iff_toInt_le] at *; first | rw [if_pos (by omega)] | rw [if_neg (by omega)]) rfl
  · skip
    refine j_lload_n EE 0 dX10_in_6 rfl rfl ?_
    refine j_lload EE 2 dX10_in_7 rfl ?_
    refine j_lcmp EE dX10_in_9 ?_
    refine j_if_gt EE 17 dX10_in_10 (by decide) (fun c10 => ?_) (fun c10 => ?_)
    · skip
      refine j_iconst (v := nI 0) EE dX10_in_17 (by decide) ?_
      exact j_zret EE FF (by decide) dX10_in_18 () trivial (by simp only [lg_cmp_lt, lg_cmp_gt, Int64.lt_iff_toInt_lt, Int64.le_iff_toInt_le] at *; first | rw [if_pos (by omega)] | rw [if_neg (by omega)]) rfl
    · skip
      refine j_iconst (v := nI 1) EE dX10_in_13 (by decide) ?_
      refine j_goto EE 18 dX10_in_14 (by decide) ?_
      exact j_zret EE FF (by decide) dX10_in_18 () trivial (by simp only [lg_cmp_lt, lg_cmp_gt, Int64.lt_iff_toInt_lt, Int64.le_iff_toInt_le] at *; first | rw [if_pos (by omega)] | rw [if_neg (by omega)]) rfl

set_option maxHeartbeats 4000000 in
set_option maxRecDepth 100000 in
theorem c_X10_has (m i : Nat) (hm : m < 2 ^ 31) (hi : i < 31) : Ct l yX10_has wsX10_has (rmD (0)) D [(cI, .int), (cC, .char), (cJ, .long), (cG, .object "PushdownGameSolver$Game")] [.int (nI m), .int (nI i)] [] (S := Unit) (fun _ => True) (fun _ => some (.int (nI (bt m i)))) (fun _ => []) := by
  refine Ct.of (lv := [(0, .int (nI m)), (1, .int (nI i))]) (by decide) rfl (Nat.le_of_ble_eq_true rfl) rfl ?_
  intro ε hL EE FF
  refine j_iload_n EE 0 dX10_has_0 rfl rfl ?_
  refine j_iload_n EE 1 dX10_has_1 rfl rfl ?_
  refine j_ishr EE dX10_has_2 ?_
  refine j_iconst (v := nI 1) EE dX10_has_3 (by decide) ?_
  refine j_iand EE dX10_has_4 ?_
  refine j_topE (y := nI (bt m i)) (b_bit hm hi) ?_
  refine j_iconst (v := nI 1) EE dX10_has_5 (by decide) ?_
  refine j_icmp_ne EE 13 dX10_has_6 (by decide) (fun c6 => ?_) (fun c6 => ?_)
  · skip
    have n6 : (bt m i) ≠ 1 := fun hq => c6 ((nI_eq (a := (bt m i)) (b := 1) (by have := bt_lt m i; omega) (by have := bt_lt m i; omega)).mpr hq)
    refine j_iconst (v := nI 0) EE dX10_has_13 (by decide) ?_
    exact j_zret EE FF (by decide) dX10_has_14 () trivial (by have := bt_lt m i; first | rw [show bt m i = 1 by omega] | rw [show bt m i = 0 by omega]) rfl
  · skip
    have n6 : (bt m i) = 1 := (nI_eq (a := (bt m i)) (b := 1) (by have := bt_lt m i; omega) (by have := bt_lt m i; omega)).mp c6
    refine j_iconst (v := nI 1) EE dX10_has_9 (by decide) ?_
    refine j_goto EE 14 dX10_has_10 (by decide) ?_
    exact j_zret EE FF (by decide) dX10_has_14 () trivial (by have := bt_lt m i; first | rw [show bt m i = 1 by omega] | rw [show bt m i = 0 by omega]) rfl

end G_22_leaves
