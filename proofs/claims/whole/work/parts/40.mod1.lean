section G_40_mod1
variable {l : Launch} {D : va_G} {cI cC cJ cG : ClassId}

/-- the model's row of a game: the words' symbols stand one lower -/
def sA (F : Nat → Nat) : Nat → Int32 := fun i => if 5 ≤ i ∧ i < 85 ∧ 3 ≤ i % 5 then nI (F i) - nI 1 else nI (F i)
theorem sA_n {F : Nat → Nat} {i : Nat} (h : ¬ (5 ≤ i ∧ i < 85 ∧ 3 ≤ i % 5)) : sA F i = nI (F i) := if_neg h
theorem sA_w {F : Nat → Nat} {i : Nat} (h : 5 ≤ i ∧ i < 85 ∧ 3 ≤ i % 5) : sA F i = nI (F i) - nI 1 := if_pos h
theorem upd_sAn {F : Nat → Nat} {k c : Nat} (h : ¬ (5 ≤ k ∧ k < 85 ∧ 3 ≤ k % 5)) : upd (sA F) k (nI c) = sA (updN F k c) := by
  funext j
  unfold upd updN sA
  by_cases hj : j = k
  · subst hj; simp [h]
  · simp [hj]
theorem upd_sAw {F : Nat → Nat} {k c : Nat} (h : 5 ≤ k ∧ k < 85 ∧ 3 ≤ k % 5) : upd (sA F) k (nI c - nI 1) = sA (updN F k c) := by
  funext j
  unfold upd updN sA
  by_cases hj : j = k
  · subst hj; simp [h]
  · simp [hj]
theorem upd_sAo {F G : Nat → Nat} {k : Nat} : upd (sA F) k (sA G k) = sA (updN F k (G k)) := by
  funext j
  unfold upd updN sA
  by_cases hj : j = k
  · subst hj; simp
  · simp [hj]
def kA (Q : Nat → Nat) : Nat → Int32 := fun i => if 5 ≤ i % 99 ∧ i % 99 < 85 ∧ 3 ≤ i % 99 % 5 then nI (Q i) - nI 1 else nI (Q i)
theorem upd_kA {Q F : Nat → Nat} {m k : Nat} (hk : k < 99) : upd (kA Q) (99 * m + k) (sA F k) = kA (updN Q (99 * m + k) (F k)) := by
  funext j
  unfold upd updN kA sA
  by_cases hj : j = 99 * m + k
  · subst hj
    have h1 : (99 * m + k) % 99 = k := by omega
    simp [h1]
  · simp [hj]
theorem upd_kk {Q : Nat → Nat} {k : Nat} : upd (kA Q) k (kA Q (99 + k)) = kA (updN Q k (Q (99 + k))) := by
  funext j
  unfold upd updN kA
  by_cases hj : j = k
  · subst hj
    have h1 : (99 + j) % 99 = j % 99 := by omega
    simp [h1]
  · simp [hj]
theorem upd_sk {F Q : Nat → Nat} {m k : Nat} (hk : k < 99) : upd (sA F) k (kA Q (99 * m + k)) = sA (updN F k (Q (99 * m + k))) := by
  funext j
  unfold upd updN kA sA
  by_cases hj : j = k
  · subst hj
    have h1 : (99 * m + j) % 99 = j := by omega
    simp [h1]
  · simp [hj]
def hrC (F : Nat → Nat) (a b : Nat) : Nat → Nat
  | 0 => 0
  | r + 1 => hrC F a b r + (if F (5 + 5 * r) = a ∧ F (5 + 5 * r + 1) = b then 1 else 0)
theorem hrC_le (F : Nat → Nat) (a b : Nat) : ∀ r, hrC F a b r ≤ r
  | 0 => Nat.le_refl 0
  | r + 1 => by
    have h := hrC_le F a b r
    unfold hrC
    split <;> omega
def ruF (F : Nat → Nat) (a b c u v : Nat) : Nat → Nat := updN (updN (updN (updN (updN (updN F (5 + 5 * F 4) a) (5 + 5 * F 4 + 1) b) (5 + 5 * F 4 + 2) c) (5 + 5 * F 4 + 3) u) (5 + 5 * F 4 + 4) v) 4 (F 4 + 1)
theorem in_okc (x : Int32) : (if (32 : Int64) ≤ x.toInt64 ∧ x.toInt64 ≤ (126 : Int64) then nI 1 else nI 0) = nI (b2n (okc x)) := by
  have h1 : x.toInt64.toInt = x.toInt := Int32.toInt_toInt64 x
  have h2 : ((32 : Int64).toInt) = 32 := by decide
  have h3 : ((126 : Int64).toInt) = 126 := by decide
  unfold okc
  by_cases h : 32 ≤ x.toInt ∧ x.toInt ≤ 126
  · rw [decide_eq_true h, if_pos ⟨Int64.le_iff_toInt_le.mpr (by omega), Int64.le_iff_toInt_le.mpr (by omega)⟩]; rfl
  · rw [decide_eq_false h, if_neg (fun z => h ⟨by have := Int64.le_iff_toInt_le.mp z.1; omega, by have := Int64.le_iff_toInt_le.mp z.2; omega⟩)]; rfl
theorem in_inR (x : Int32) {n : Nat} (hn : n < 2 ^ 30) : (if lN 0 ≤ x.toInt64 ∧ x.toInt64 ≤ (nI n - nI 1).toInt64 then nI 1 else nI 0) = nI (b2n (inR x n)) := by
  have h1 : x.toInt64.toInt = x.toInt := Int32.toInt_toInt64 x
  have h2 : (lN 0).toInt = 0 := by decide
  have h3 : (nI n - nI 1).toInt64.toInt = (n : Int) - (1 : Nat) := by rw [Int32.toInt_toInt64, pk_sub_toInt hn (by decide)]
  unfold inR
  by_cases h : 0 ≤ x.toInt ∧ x.toInt < n
  · rw [decide_eq_true h, if_pos ⟨Int64.le_iff_toInt_le.mpr (by omega), Int64.le_iff_toInt_le.mpr (by omega)⟩]; rfl
  · rw [decide_eq_false h, if_neg (fun z => h ⟨by have := Int64.le_iff_toInt_le.mp z.1; omega, by have := Int64.le_iff_toInt_le.mp z.2; omega⟩)]; rfl
def fA (a : Nat → Nat) : Nat → Int32 := fun i => nI (a i) - nI 1
theorem okc_c {x : Int32} (h : okc x = true) : ∃ c : Nat, 32 ≤ c ∧ c ≤ 126 ∧ x = nI c := by
  unfold okc at h
  rw [decide_eq_true_eq] at h
  obtain ⟨j, k1, k2⟩ := nI_of (x := x) (fun z => by
    have h1 := Int32.lt_iff_toInt_lt.mp z
    have h4 : (0 : Int32).toInt = 0 := rfl
    omega)
  subst k2
  rw [nI_toInt k1] at h
  exact ⟨j, by omega, by omega, rfl⟩

set_option maxHeartbeats 4000000 in
set_option maxRecDepth 100000 in
theorem c_X10_rule (q9 : Nat) (F : Nat → Nat) (a b c u v : Nat) (hn : F 4 < 16) : Ct l yX10_rule wsX10_rule (rmD (0)) D [(cI, .int), (cC, .char), (cJ, .long), (cG, .object "PushdownGameSolver$Game")] [.ref (q9), .int (nI a), .int (nI b), .int (nI c), .int (nI u - nI 1), .int (nI v - nI 1)] [(q9, .inl (cI, 99, .inl (sA F)))] (S := Unit) (fun _ => True) (fun _ => none) (fun _ => [(q9, .inl (cI, 99, .inl (sA (ruF F a b c u v))))]) := by
  refine Ct.of (lv := [(0, .ref (q9)), (1, .int (nI a)), (2, .int (nI b)), (3, .int (nI c)), (4, .int (nI u - nI 1)), (5, .int (nI v - nI 1))]) (by decide) rfl (Nat.le_of_ble_eq_true rfl) rfl ?_
  intro ε hL EE FF
  refine j_iconst (v := nI 5) EE dX10_rule_0 (by decide) ?_
  refine j_iconst (v := nI 5) EE dX10_rule_1 (by decide) ?_
  refine j_aload_n EE 0 dX10_rule_2 rfl rfl ?_
  refine j_iconst (v := nI 4) EE dX10_rule_3 (by decide) ?_
  refine j_iald EE 0 0 rfl rfl (vp_in_nI (n := 4) (by omega) (by decide)) dX10_rule_4 ?_
  refine j_topE (congrArg (sA F) (nI_clamp (n := 4) (by omega))) ?_
  refine j_topE (y := nI (F 4)) (sA_n (by omega)) ?_
  refine j_imul EE dX10_rule_5 ?_
  refine j_topE (pk_mul 5 (F 4)) ?_
  refine j_iadd EE dX10_rule_6 ?_
  refine j_topE (nI_add 5 (5 * (F 4))) ?_
  refine j_istore EE [(6, _), (0, _), (1, _), (2, _), (3, _), (4, _), (5, _)] dX10_rule_7 (Nat.lt_of_lt_of_eq (by decide) hL.symm) rfl ?_
  refine j_aload_n EE 1 dX10_rule_9 rfl rfl ?_
  refine j_iload EE 0 dX10_rule_10 rfl ?_
  refine j_iload_n EE 2 dX10_rule_12 rfl rfl ?_
  refine j_iast (ws' := [(q9, .inl (cI, 99, .inl (sA (updN F (5 + (5 * (F 4))) a))))]) EE 0 0 rfl rfl (vp_in_nI (n := 5 + (5 * (F 4))) (by omega) (by decide)) (by rw [nI_clamp (by omega), upd_sAn (by omega)]; rfl) dX10_rule_13 ?_
  refine j_aload_n EE 1 dX10_rule_14 rfl rfl ?_
  refine j_iload EE 0 dX10_rule_15 rfl ?_
  refine j_iconst (v := nI 1) EE dX10_rule_17 (by decide) ?_
  refine j_iadd EE dX10_rule_18 ?_
  refine j_topE (nI_add (5 + (5 * (F 4))) 1) ?_
  refine j_iload_n EE 3 dX10_rule_19 rfl rfl ?_
  refine j_iast (ws' := [(q9, .inl (cI, 99, .inl (sA (updN (updN F (5 + (5 * (F 4))) a) ((5 + (5 * (F 4))) + 1) b))))]) EE 0 0 rfl rfl (vp_in_nI (n := (5 + (5 * (F 4))) + 1) (by omega) (by decide)) (by rw [nI_clamp (by omega), upd_sAn (by omega)]; rfl) dX10_rule_20 ?_
  refine j_aload_n EE 1 dX10_rule_21 rfl rfl ?_
  refine j_iload EE 0 dX10_rule_22 rfl ?_
  refine j_iconst (v := nI 2) EE dX10_rule_24 (by decide) ?_
  refine j_iadd EE dX10_rule_25 ?_
  refine j_topE (nI_add (5 + (5 * (F 4))) 2) ?_
  refine j_iload_n EE 4 dX10_rule_26 rfl rfl ?_
  refine j_iast (ws' := [(q9, .inl (cI, 99, .inl (sA (updN (updN (updN F (5 + (5 * (F 4))) a) ((5 + (5 * (F 4))) + 1) b) ((5 + (5 * (F 4))) + 2) c))))]) EE 0 0 rfl rfl (vp_in_nI (n := (5 + (5 * (F 4))) + 2) (by omega) (by decide)) (by rw [nI_clamp (by omega), upd_sAn (by omega)]; rfl) dX10_rule_27 ?_
  refine j_aload_n EE 1 dX10_rule_28 rfl rfl ?_
  refine j_iload EE 0 dX10_rule_29 rfl ?_
  refine j_iconst (v := nI 3) EE dX10_rule_31 (by decide) ?_
  refine j_iadd EE dX10_rule_32 ?_
  refine j_topE (nI_add (5 + (5 * (F 4))) 3) ?_
  refine j_iload EE 5 dX10_rule_33 rfl ?_
  refine j_iast (ws' := [(q9, .inl (cI, 99, .inl (sA (updN (updN (updN (updN F (5 + (5 * (F 4))) a) ((5 + (5 * (F 4))) + 1) b) ((5 + (5 * (F 4))) + 2) c) ((5 + (5 * (F 4))) + 3) u))))]) EE 0 0 rfl rfl (vp_in_nI (n := (5 + (5 * (F 4))) + 3) (by omega) (by decide)) (by rw [nI_clamp (by omega), upd_sAw (by omega)]; rfl) dX10_rule_35 ?_
  refine j_aload_n EE 1 dX10_rule_36 rfl rfl ?_
  refine j_iload EE 0 dX10_rule_37 rfl ?_
  refine j_iconst (v := nI 4) EE dX10_rule_39 (by decide) ?_
  refine j_iadd EE dX10_rule_40 ?_
  refine j_topE (nI_add (5 + (5 * (F 4))) 4) ?_
  refine j_iload EE 6 dX10_rule_41 rfl ?_
  refine j_iast (ws' := [(q9, .inl (cI, 99, .inl (sA (updN (updN (updN (updN (updN F (5 + (5 * (F 4))) a) ((5 + (5 * (F 4))) + 1) b) ((5 + (5 * (F 4))) + 2) c) ((5 + (5 * (F 4))) + 3) u) ((5 + (5 * (F 4))) + 4) v))))]) EE 0 0 rfl rfl (vp_in_nI (n := (5 + (5 * (F 4))) + 4) (by omega) (by decide)) (by rw [nI_clamp (by omega), upd_sAw (by omega)]; rfl) dX10_rule_43 ?_
  refine j_aload_n EE 1 dX10_rule_44 rfl rfl ?_
  refine j_iconst (v := nI 4) EE dX10_rule_45 (by decide) ?_
  refine j_dup2 EE rfl rfl dX10_rule_46 ?_
  refine j_iald EE 0 0 rfl rfl (vp_in_nI (n := 4) (by omega) (by decide)) dX10_rule_47 ?_
  refine j_topE (congrArg (sA (updN (updN (updN (updN (updN F (5 + (5 * (F 4))) a) ((5 + (5 * (F 4))) + 1) b) ((5 + (5 * (F 4))) + 2) c) ((5 + (5 * (F 4))) + 3) u) ((5 + (5 * (F 4))) + 4) v)) (nI_clamp (n := 4) (by omega))) ?_
  refine j_topE (y := nI (F 4)) (by rw [sA_n (by omega)]; simp only [updN]; rw [if_neg (by omega), if_neg (by omega), if_neg (by omega), if_neg (by omega), if_neg (by omega)]) ?_
  refine j_iconst (v := nI 1) EE dX10_rule_48 (by decide) ?_
  refine j_iadd EE dX10_rule_49 ?_
  refine j_topE (nI_add (F 4) 1) ?_
  refine j_iast (ws' := [(q9, .inl (cI, 99, .inl (sA (updN (updN (updN (updN (updN (updN F (5 + (5 * (F 4))) a) ((5 + (5 * (F 4))) + 1) b) ((5 + (5 * (F 4))) + 2) c) ((5 + (5 * (F 4))) + 3) u) ((5 + (5 * (F 4))) + 4) v) 4 ((F 4) + 1)))))]) EE 0 0 rfl rfl (vp_in_nI (n := 4) (by omega) (by decide)) (by rw [nI_clamp (by omega), upd_sAn (by omega)]; rfl) dX10_rule_50 ?_
  exact j_vret EE FF dX10_rule_51 () trivial rfl rfl

set_option maxHeartbeats 4000000 in
set_option maxRecDepth 100000 in
theorem c_X10_hasRoom (q9 : Nat) (F : Nat → Nat) (a b : Nat) (hn : F 4 ≤ 16) (hFb : ∀ i, F i < 65536) (ha : a < 65536) (hb : b < 65536) : Ct l yX10_hasRoom wsX10_hasRoom (rmD (0)) D [(cI, .int), (cC, .char), (cJ, .long), (cG, .object "PushdownGameSolver$Game")] [.ref (q9), .int (nI a), .int (nI b)] [(q9, .inl (cI, 99, .inl (sA F)))] (S := Unit) (fun _ => True) (fun _ => some (.int (nI (b2n (decide (hrC F a b (F 4) < 3 ∧ F 4 < 16)))))) (fun _ => [(q9, .inl (cI, 99, .inl (sA F)))]) := by
  refine Ct.of (lv := [(0, .ref (q9)), (1, .int (nI a)), (2, .int (nI b))]) (by decide) rfl (Nat.le_of_ble_eq_true rfl) rfl ?_
  intro ε hL EE FF
  have Lp_5 : ∀ (nf : Nat), ∀ (r : Nat), 17 - r < nf → (r ≤ F 4) → J l (rmD (0)) D ε [(q9, .inl (cI, 99, .inl (sA F)))] 5 [(4, .int (nI r)), (3, .int (nI (hrC F a b r))), (0, .ref (q9)), (1, .int (nI a)), (2, .int (nI b))] [] := by
    intro nf
    induction nf with
    | zero => intro r hm; exact absurd hm (Nat.not_lt_zero _)
    | succ nf ihp_5 =>
      intro r hm5 hr
      refine j_iload EE 0 dX10_hasRoom_5 rfl ?_
      refine j_aload_n EE 2 dX10_hasRoom_7 rfl rfl ?_
      refine j_iconst (v := nI 4) EE dX10_hasRoom_8 (by decide) ?_
      refine j_iald EE 0 0 rfl rfl (vp_in_nI (n := 4) (by omega) (by decide)) dX10_hasRoom_9 ?_
      refine j_topE (congrArg (sA F) (nI_clamp (n := 4) (by omega))) ?_
      refine j_topE (y := nI (F 4)) (sA_n (by omega)) ?_
      refine j_icmp_ge EE 53 dX10_hasRoom_10 (by decide) (fun c10 => ?_) (fun c10 => ?_)
      · skip
        have n10 : (F 4) ≤ r := (nI_leI (a := (F 4)) (b := r) (by have := hFb 4; omega) (by have := hFb 4; omega)).mp c10
        refine j_iload_n EE 1 dX10_hasRoom_53 rfl rfl ?_
        refine j_iconst (v := nI 3) EE dX10_hasRoom_54 (by decide) ?_
        refine j_icmp_ge EE 70 dX10_hasRoom_55 (by decide) (fun c55 => ?_) (fun c55 => ?_)
        · skip
          have n55 : 3 ≤ (hrC F a b r) := (nI_leI (a := 3) (b := (hrC F a b r)) (by have := hrC_le F a b r; omega) (by have := hrC_le F a b r; omega)).mp c55
          refine j_iconst (v := nI 0) EE dX10_hasRoom_70 (by decide) ?_
          exact j_zret EE FF (by decide) dX10_hasRoom_71 () trivial (by first | rw [decide_eq_true (show hrC F a b (F 4) < 3 ∧ F 4 < 16 by rw [show F 4 = r by omega]; omega)]; rfl | rw [decide_eq_false (show ¬ (hrC F a b (F 4) < 3 ∧ F 4 < 16) by rw [show F 4 = r by omega]; omega)]; rfl) rfl
        · skip
          have n55 : ¬ 3 ≤ (hrC F a b r) := fun hq => c55 ((nI_leI (a := 3) (b := (hrC F a b r)) (by have := hrC_le F a b r; omega) (by have := hrC_le F a b r; omega)).mpr hq)
          refine j_aload_n EE 2 dX10_hasRoom_58 rfl rfl ?_
          refine j_iconst (v := nI 4) EE dX10_hasRoom_59 (by decide) ?_
          refine j_iald EE 0 0 rfl rfl (vp_in_nI (n := 4) (by omega) (by decide)) dX10_hasRoom_60 ?_
          refine j_topE (congrArg (sA F) (nI_clamp (n := 4) (by omega))) ?_
          refine j_topE (y := nI (F 4)) (sA_n (by omega)) ?_
          refine j_bipush (v := nI 16) EE dX10_hasRoom_61 (by decide) ?_
          refine j_icmp_ge EE 70 dX10_hasRoom_63 (by decide) (fun c63 => ?_) (fun c63 => ?_)
          · skip
            have n63 : 16 ≤ (F 4) := (nI_leI (a := 16) (b := (F 4)) (by have := hFb 4; omega) (by have := hFb 4; omega)).mp c63
            refine j_iconst (v := nI 0) EE dX10_hasRoom_70 (by decide) ?_
            exact j_zret EE FF (by decide) dX10_hasRoom_71 () trivial (by first | rw [decide_eq_true (show hrC F a b (F 4) < 3 ∧ F 4 < 16 by rw [show F 4 = r by omega]; omega)]; rfl | rw [decide_eq_false (show ¬ (hrC F a b (F 4) < 3 ∧ F 4 < 16) by rw [show F 4 = r by omega]; omega)]; rfl) rfl
          · skip
            have n63 : ¬ 16 ≤ (F 4) := fun hq => c63 ((nI_leI (a := 16) (b := (F 4)) (by have := hFb 4; omega) (by have := hFb 4; omega)).mpr hq)
            refine j_iconst (v := nI 1) EE dX10_hasRoom_66 (by decide) ?_
            refine j_goto EE 71 dX10_hasRoom_67 (by decide) ?_
            exact j_zret EE FF (by decide) dX10_hasRoom_71 () trivial (by first | rw [decide_eq_true (show hrC F a b (F 4) < 3 ∧ F 4 < 16 by rw [show F 4 = r by omega]; omega)]; rfl | rw [decide_eq_false (show ¬ (hrC F a b (F 4) < 3 ∧ F 4 < 16) by rw [show F 4 = r by omega]; omega)]; rfl) rfl
      · skip
        have n10 : ¬ (F 4) ≤ r := fun hq => c10 ((nI_leI (a := (F 4)) (b := r) (by have := hFb 4; omega) (by have := hFb 4; omega)).mpr hq)
        refine j_iload_n EE 1 dX10_hasRoom_13 rfl rfl ?_
        refine j_aload_n EE 2 dX10_hasRoom_14 rfl rfl ?_
        refine j_iconst (v := nI 5) EE dX10_hasRoom_15 (by decide) ?_
        refine j_iconst (v := nI 5) EE dX10_hasRoom_16 (by decide) ?_
        refine j_iload EE 0 dX10_hasRoom_17 rfl ?_
        refine j_imul EE dX10_hasRoom_19 ?_
        refine j_topE (pk_mul 5 r) ?_
        refine j_iadd EE dX10_hasRoom_20 ?_
        refine j_topE (nI_add 5 (5 * r)) ?_
        refine j_iald EE 0 0 rfl rfl (vp_in_nI (n := 5 + (5 * r)) (by omega) (by decide)) dX10_hasRoom_21 ?_
        refine j_topE (congrArg (sA F) (nI_clamp (n := 5 + (5 * r)) (by omega))) ?_
        refine j_topE (y := nI (F (5 + (5 * r)))) (sA_n (by omega)) ?_
        refine j_iload_n EE 3 dX10_hasRoom_22 rfl rfl ?_
        refine j_icmp_ne EE 44 dX10_hasRoom_23 (by decide) (fun c23 => ?_) (fun c23 => ?_)
        · skip
          have n23 : (F (5 + (5 * r))) ≠ a := fun hq => c23 ((nI_eq (a := (F (5 + (5 * r)))) (b := a) (by have := hFb (5 + (5 * r)); omega) (by have := hFb (5 + (5 * r)); omega)).mpr hq)
          refine j_iconst (v := nI 0) EE dX10_hasRoom_44 (by decide) ?_
          refine j_iadd EE dX10_hasRoom_45 ?_
          refine j_topE (nI_add (hrC F a b r) 0) ?_
          refine j_istore_n EE [(3, _), (4, _), (0, _), (1, _), (2, _)] dX10_hasRoom_46 rfl (Nat.lt_of_lt_of_eq (by decide) hL.symm) rfl ?_
          refine j_iinc (v := nI (r + 1)) EE 1 [(4, .int (nI (r + 1))), (3, _), (0, _), (1, _), (2, _)] dX10_hasRoom_47 rfl (nI_1 r) (Nat.lt_of_lt_of_eq (by decide) hL.symm) rfl ?_
          refine j_goto EE 5 dX10_hasRoom_50 (by decide) ?_
          first | rw [show hrC F a b r + 1 = hrC F a b (r + 1) by conv => rhs; unfold hrC; rw [if_pos ⟨n23, n37⟩]] | rw [show hrC F a b r + 0 = hrC F a b (r + 1) by conv => rhs; unfold hrC; rw [if_neg (fun z => n23 z.1)]] | rw [show hrC F a b r + 0 = hrC F a b (r + 1) by conv => rhs; unfold hrC; rw [if_neg (fun z => n37 z.2)]]
          exact ihp_5 (r + 1) (by omega) (by omega)
        · skip
          have n23 : (F (5 + (5 * r))) = a := (nI_eq (a := (F (5 + (5 * r)))) (b := a) (by have := hFb (5 + (5 * r)); omega) (by have := hFb (5 + (5 * r)); omega)).mp c23
          refine j_aload_n EE 2 dX10_hasRoom_26 rfl rfl ?_
          refine j_iconst (v := nI 5) EE dX10_hasRoom_27 (by decide) ?_
          refine j_iconst (v := nI 5) EE dX10_hasRoom_28 (by decide) ?_
          refine j_iload EE 0 dX10_hasRoom_29 rfl ?_
          refine j_imul EE dX10_hasRoom_31 ?_
          refine j_topE (pk_mul 5 r) ?_
          refine j_iadd EE dX10_hasRoom_32 ?_
          refine j_topE (nI_add 5 (5 * r)) ?_
          refine j_iconst (v := nI 1) EE dX10_hasRoom_33 (by decide) ?_
          refine j_iadd EE dX10_hasRoom_34 ?_
          refine j_topE (nI_add (5 + (5 * r)) 1) ?_
          refine j_iald EE 0 0 rfl rfl (vp_in_nI (n := (5 + (5 * r)) + 1) (by omega) (by decide)) dX10_hasRoom_35 ?_
          refine j_topE (congrArg (sA F) (nI_clamp (n := (5 + (5 * r)) + 1) (by omega))) ?_
          refine j_topE (y := nI (F ((5 + (5 * r)) + 1))) (sA_n (by omega)) ?_
          refine j_iload_n EE 4 dX10_hasRoom_36 rfl rfl ?_
          refine j_icmp_ne EE 44 dX10_hasRoom_37 (by decide) (fun c37 => ?_) (fun c37 => ?_)
          · skip
            have n37 : (F ((5 + (5 * r)) + 1)) ≠ b := fun hq => c37 ((nI_eq (a := (F ((5 + (5 * r)) + 1))) (b := b) (by have := hFb ((5 + (5 * r)) + 1); omega) (by have := hFb ((5 + (5 * r)) + 1); omega)).mpr hq)
            refine j_iconst (v := nI 0) EE dX10_hasRoom_44 (by decide) ?_
            refine j_iadd EE dX10_hasRoom_45 ?_
            refine j_topE (nI_add (hrC F a b r) 0) ?_
            refine j_istore_n EE [(3, _), (4, _), (0, _), (1, _), (2, _)] dX10_hasRoom_46 rfl (Nat.lt_of_lt_of_eq (by decide) hL.symm) rfl ?_
            refine j_iinc (v := nI (r + 1)) EE 1 [(4, .int (nI (r + 1))), (3, _), (0, _), (1, _), (2, _)] dX10_hasRoom_47 rfl (nI_1 r) (Nat.lt_of_lt_of_eq (by decide) hL.symm) rfl ?_
            refine j_goto EE 5 dX10_hasRoom_50 (by decide) ?_
            first | rw [show hrC F a b r + 1 = hrC F a b (r + 1) by conv => rhs; unfold hrC; rw [if_pos ⟨n23, n37⟩]] | rw [show hrC F a b r + 0 = hrC F a b (r + 1) by conv => rhs; unfold hrC; rw [if_neg (fun z => n23 z.1)]] | rw [show hrC F a b r + 0 = hrC F a b (r + 1) by conv => rhs; unfold hrC; rw [if_neg (fun z => n37 z.2)]]
            exact ihp_5 (r + 1) (by omega) (by omega)
          · skip
            have n37 : (F ((5 + (5 * r)) + 1)) = b := (nI_eq (a := (F ((5 + (5 * r)) + 1))) (b := b) (by have := hFb ((5 + (5 * r)) + 1); omega) (by have := hFb ((5 + (5 * r)) + 1); omega)).mp c37
            refine j_iconst (v := nI 1) EE dX10_hasRoom_40 (by decide) ?_
            refine j_goto EE 45 dX10_hasRoom_41 (by decide) ?_
            refine j_iadd EE dX10_hasRoom_45 ?_
            refine j_topE (nI_add (hrC F a b r) 1) ?_
            refine j_istore_n EE [(3, _), (4, _), (0, _), (1, _), (2, _)] dX10_hasRoom_46 rfl (Nat.lt_of_lt_of_eq (by decide) hL.symm) rfl ?_
            refine j_iinc (v := nI (r + 1)) EE 1 [(4, .int (nI (r + 1))), (3, _), (0, _), (1, _), (2, _)] dX10_hasRoom_47 rfl (nI_1 r) (Nat.lt_of_lt_of_eq (by decide) hL.symm) rfl ?_
            refine j_goto EE 5 dX10_hasRoom_50 (by decide) ?_
            first | rw [show hrC F a b r + 1 = hrC F a b (r + 1) by conv => rhs; unfold hrC; rw [if_pos ⟨n23, n37⟩]] | rw [show hrC F a b r + 0 = hrC F a b (r + 1) by conv => rhs; unfold hrC; rw [if_neg (fun z => n23 z.1)]] | rw [show hrC F a b r + 0 = hrC F a b (r + 1) by conv => rhs; unfold hrC; rw [if_neg (fun z => n37 z.2)]]
            exact ihp_5 (r + 1) (by omega) (by omega)
  refine j_iconst (v := nI 0) EE dX10_hasRoom_0 (by decide) ?_
  refine j_istore_n EE [(3, _), (0, _), (1, _), (2, _)] dX10_hasRoom_1 rfl (Nat.lt_of_lt_of_eq (by decide) hL.symm) rfl ?_
  refine j_iconst (v := nI 0) EE dX10_hasRoom_2 (by decide) ?_
  refine j_istore EE [(4, _), (3, _), (0, _), (1, _), (2, _)] dX10_hasRoom_3 (Nat.lt_of_lt_of_eq (by decide) hL.symm) rfl ?_
  exact Lp_5 _ 0 (Nat.lt_succ_self _) (by omega)

theorem mw_X10_append_c54 : Cond.constantLong RX10 54 (32) ∈ wsX10_append := List.mem_of_getElem? (i := 1) rfl
theorem mw_X10_append_c56 : Cond.constantLong RX10 56 (126) ∈ wsX10_append := List.mem_of_getElem? (i := 2) rfl
theorem hd_X10_in : yX10_in.cls ≠ "java/lang/invoke/MethodHandle" ∧ yX10_in.cls ≠ "java/lang/invoke/VarHandle" ∧ (parseMethodDescriptor yX10_in.desc).map (fun d => d.parameters.length) = some 3 := by decide +kernel
theorem iw_X10_append_X10 : ∀ w ∈ wsX100, w ∈ wsX10_append := fun _ h => List.mem_cons_of_mem _ (List.mem_append_right _ h)
theorem lk_X10_append_62 : Cond.fieldLink RX10 62 (TX10 5).1 (TX10 5).2.1 (TX10 5).2.2.1 ∈ wsX10_append := List.mem_of_getElem? (i := 3) rfl
theorem lk_X10_append_19 : Cond.fieldLink RX10 19 (TX10 4).1 (TX10 4).2.1 (TX10 4).2.2.1 ∈ wsX10_append := List.mem_of_getElem? (i := 4) rfl
set_option maxHeartbeats 4000000 in
set_option maxRecDepth 100000 in
theorem c_X10_append (h F Q ft B Bt a1 a2 a3 a4 a5 : Nat → Nat) (fr : Nat → Int32) (W M : Nat → Int64) (km le sp ro : Nat) (x : Int32) (hl : le < 200) : Ct l yX10_append wsX10_append (rmD (1)) D [(cI, .int), (cC, .char), (cJ, .long), (cG, .object "PushdownGameSolver$Game")] [.ref ((h 0)), .int (x)] [((h 0), .inr (6, [.ref ((h 1)), .ref ((h 2)), .ref ((h 3)), .int (nI km), .ref ((h 4)), .int (nI le), .int (nI sp), .ref ((h 5)), .ref ((h 6)), .int (nI ro), .ref ((h 7)), .ref ((h 8)), .ref ((h 9)), .ref ((h 10)), .ref ((h 11)), .ref ((h 12)), .ref ((h 13))])), ((h 1), .inl (cI, 99, .inl (sA F))), ((h 2), .inl (cI, 99, .inl fr)), ((h 3), .inl (cI, 594, .inl (kA Q))), ((h 4), .inl (cI, 200, .inl (fun zz => nI (ft zz)))), ((h 5), .inl (cI, 12, .inl (fun zz => nI (B zz)))), ((h 6), .inl (cI, 12, .inl (fun zz => nI (Bt zz)))), ((h 7), .inl (cJ, 16, .inr (.inl W))), ((h 8), .inl (cJ, 16, .inr (.inl M))), ((h 9), .inl (cI, 9, .inl (fun zz => nI (a1 zz)))), ((h 10), .inl (cI, 9, .inl (fun zz => nI (a2 zz)))), ((h 11), .inl (cI, 198, .inl (fun zz => nI (a3 zz)))), ((h 12), .inl (cI, 9, .inl (fun zz => nI (a4 zz)))), ((h 13), .inl (cI, 9, .inl (fA a5)))] (S := Unit) (fun _ => True) (fun _ => some (.int (if okc x = true then nI (le + 1) else (-1)))) (fun _ => [((h 0), .inr (6, [.ref ((h 1)), .ref ((h 2)), .ref ((h 3)), .int (nI km), .ref ((h 4)), .int (nI (if okc x = true then le + 1 else le)), .int (nI sp), .ref ((h 5)), .ref ((h 6)), .int (nI ro), .ref ((h 7)), .ref ((h 8)), .ref ((h 9)), .ref ((h 10)), .ref ((h 11)), .ref ((h 12)), .ref ((h 13))])), ((h 1), .inl (cI, 99, .inl (sA F))), ((h 2), .inl (cI, 99, .inl fr)), ((h 3), .inl (cI, 594, .inl (kA Q))), ((h 4), .inl (cI, 200, .inl (fun zz => nI ((if okc x = true then updN ft le x.toNatClampNeg else ft) zz)))), ((h 5), .inl (cI, 12, .inl (fun zz => nI (B zz)))), ((h 6), .inl (cI, 12, .inl (fun zz => nI (Bt zz)))), ((h 7), .inl (cJ, 16, .inr (.inl W))), ((h 8), .inl (cJ, 16, .inr (.inl M))), ((h 9), .inl (cI, 9, .inl (fun zz => nI (a1 zz)))), ((h 10), .inl (cI, 9, .inl (fun zz => nI (a2 zz)))), ((h 11), .inl (cI, 198, .inl (fun zz => nI (a3 zz)))), ((h 12), .inl (cI, 9, .inl (fun zz => nI (a4 zz)))), ((h 13), .inl (cI, 9, .inl (fA a5)))]) := by
  refine Ct.of (lv := [(0, .ref ((h 0))), (1, .int (x))]) (by decide) rfl (Nat.le_of_ble_eq_true rfl) rfl ?_
  intro ε hL EE FF
  refine j_iload_n EE 1 dX10_append_0 rfl rfl ?_
  refine j_i2l EE dX10_append_1 ?_
  refine j_ldc2 EE mw_X10_append_c54 dX10_append_2 ?_
  refine j_ldc2 EE mw_X10_append_c56 dX10_append_5 ?_
  refine j_S2 (n9 := 14) EE (c_X10_in ((x).toInt64) (32) (126)) gX10_append_X10_in hd_X10_in rfl ⟨rfl, rfl⟩ ⟨by decide, by decide⟩ rfl [] rfl [0, 1, 2, 3, 4, 5, 6, 7, 8, 9, 10, 11, 12, 13] [((h 0), .inr (6, [.ref ((h 1)), .ref ((h 2)), .ref ((h 3)), .int (nI km), .ref ((h 4)), .int (nI le), .int (nI sp), .ref ((h 5)), .ref ((h 6)), .int (nI ro), .ref ((h 7)), .ref ((h 8)), .ref ((h 9)), .ref ((h 10)), .ref ((h 11)), .ref ((h 12)), .ref ((h 13))])), ((h 1), .inl (cI, 99, .inl (sA F))), ((h 2), .inl (cI, 99, .inl fr)), ((h 3), .inl (cI, 594, .inl (kA Q))), ((h 4), .inl (cI, 200, .inl (fun zz => nI (ft zz)))), ((h 5), .inl (cI, 12, .inl (fun zz => nI (B zz)))), ((h 6), .inl (cI, 12, .inl (fun zz => nI (Bt zz)))), ((h 7), .inl (cJ, 16, .inr (.inl W))), ((h 8), .inl (cJ, 16, .inr (.inl M))), ((h 9), .inl (cI, 9, .inl (fun zz => nI (a1 zz)))), ((h 10), .inl (cI, 9, .inl (fun zz => nI (a2 zz)))), ((h 11), .inl (cI, 198, .inl (fun zz => nI (a3 zz)))), ((h 12), .inl (cI, 9, .inl (fun zz => nI (a4 zz)))), ((h 13), .inl (cI, 9, .inl (fA a5)))] (fun _ => rfl) [((h 0), .inr (6, [.ref ((h 1)), .ref ((h 2)), .ref ((h 3)), .int (nI km), .ref ((h 4)), .int (nI le), .int (nI sp), .ref ((h 5)), .ref ((h 6)), .int (nI ro), .ref ((h 7)), .ref ((h 8)), .ref ((h 9)), .ref ((h 10)), .ref ((h 11)), .ref ((h 12)), .ref ((h 13))])), ((h 1), .inl (cI, 99, .inl (sA F))), ((h 2), .inl (cI, 99, .inl fr)), ((h 3), .inl (cI, 594, .inl (kA Q))), ((h 4), .inl (cI, 200, .inl (fun zz => nI (ft zz)))), ((h 5), .inl (cI, 12, .inl (fun zz => nI (B zz)))), ((h 6), .inl (cI, 12, .inl (fun zz => nI (Bt zz)))), ((h 7), .inl (cJ, 16, .inr (.inl W))), ((h 8), .inl (cJ, 16, .inr (.inl M))), ((h 9), .inl (cI, 9, .inl (fun zz => nI (a1 zz)))), ((h 10), .inl (cI, 9, .inl (fun zz => nI (a2 zz)))), ((h 11), .inl (cI, 198, .inl (fun zz => nI (a3 zz)))), ((h 12), .inl (cI, 9, .inl (fun zz => nI (a4 zz)))), ((h 13), .inl (cI, 9, .inl (fA a5)))] [(h 0), (h 1), (h 2), (h 3), (h 4), (h 5), (h 6), (h 7), (h 8), (h 9), (h 10), (h 11), (h 12), (h 13)] rfl rfl rfl rfl rfl (by decide) (by decide) rfl (Nat.le_of_ble_eq_true rfl) dX10_append_8 (fun u_8 h_8 => ?_) rfl
  show J l _ D ε _ _ _ (.int (if (32) ≤ (x).toInt64 ∧ (x).toInt64 ≤ (126) then nI 1 else nI 0) :: _)
  refine j_topE (y := nI (b2n (okc x))) (in_okc x) ?_
  show J l _ D ε _ _ _ (.int (nI (b2n (okc x))) :: _)
  refine j_if_ne EE 16 dX10_append_11 (by decide) (fun c11 => ?_) (fun c11 => ?_)
  · skip
    have n11 : (b2n (okc x)) ≠ 0 := fun hq => c11 ((nI_eq (a := (b2n (okc x))) (b := 0) (by have := b2n_lt (okc x); omega) (by have := b2n_lt (okc x); omega)).mpr hq)
    have ho := b2n_ne0 n11
    obtain ⟨c, hc1, hc2, rfl⟩ := okc_c ho
    refine j_aload_n EE 0 dX10_append_16 rfl rfl ?_
    refine j_get (T := TX10) EE iw_X10_append_X10 0 rfl rfl 5 (by decide) lk_X10_append_62 rfl dX10_append_17 ?_
    refine j_sipush (v := nI 200) EE dX10_append_20 (by decide) ?_
    refine j_icmp_ne EE 29 dX10_append_23 (by decide) (fun c23 => ?_) (fun c23 => absurd ((nI_eq (a := le) (b := 200) (by omega) (by omega)).mp c23) (by omega))
    have n23 : le ≠ 200 := fun hq => c23 ((nI_eq (a := le) (b := 200) (by omega) (by omega)).mpr hq)
    refine j_aload_n EE 0 dX10_append_29 rfl rfl ?_
    refine j_get (T := TX10) EE iw_X10_append_X10 0 rfl rfl 4 (by decide) lk_X10_append_19 rfl dX10_append_30 ?_
    refine j_aload_n EE 0 dX10_append_33 rfl rfl ?_
    refine j_get (T := TX10) EE iw_X10_append_X10 0 rfl rfl 5 (by decide) lk_X10_append_62 rfl dX10_append_34 ?_
    refine j_iload_n EE 1 dX10_append_37 rfl rfl ?_
    refine j_iast (ws' := [((h 0), .inr (6, [.ref ((h 1)), .ref ((h 2)), .ref ((h 3)), .int (nI km), .ref ((h 4)), .int (nI le), .int (nI sp), .ref ((h 5)), .ref ((h 6)), .int (nI ro), .ref ((h 7)), .ref ((h 8)), .ref ((h 9)), .ref ((h 10)), .ref ((h 11)), .ref ((h 12)), .ref ((h 13))])), ((h 1), .inl (cI, 99, .inl (sA F))), ((h 2), .inl (cI, 99, .inl fr)), ((h 3), .inl (cI, 594, .inl (kA Q))), ((h 4), .inl (cI, 200, .inl (fun zz => nI ((updN ft le c) zz)))), ((h 5), .inl (cI, 12, .inl (fun zz => nI (B zz)))), ((h 6), .inl (cI, 12, .inl (fun zz => nI (Bt zz)))), ((h 7), .inl (cJ, 16, .inr (.inl W))), ((h 8), .inl (cJ, 16, .inr (.inl M))), ((h 9), .inl (cI, 9, .inl (fun zz => nI (a1 zz)))), ((h 10), .inl (cI, 9, .inl (fun zz => nI (a2 zz)))), ((h 11), .inl (cI, 198, .inl (fun zz => nI (a3 zz)))), ((h 12), .inl (cI, 9, .inl (fun zz => nI (a4 zz)))), ((h 13), .inl (cI, 9, .inl (fA a5)))]) EE 4 0 rfl rfl (vp_in_nI (n := le) (by omega) (by decide)) (by rw [nI_clamp (by omega), upd_N]; rfl) dX10_append_38 ?_
    refine j_aload_n EE 0 dX10_append_39 rfl rfl ?_
    refine j_dup EE rfl dX10_append_40 ?_
    refine j_get (T := TX10) EE iw_X10_append_X10 0 rfl rfl 5 (by decide) lk_X10_append_62 rfl dX10_append_41 ?_
    refine j_iconst (v := nI 1) EE dX10_append_44 (by decide) ?_
    refine j_iadd EE dX10_append_45 ?_
    refine j_topE (nI_add le 1) ?_
    refine j_put (T := TX10) (ws' := [((h 0), .inr (6, [.ref ((h 1)), .ref ((h 2)), .ref ((h 3)), .int (nI km), .ref ((h 4)), .int (nI (le + 1)), .int (nI sp), .ref ((h 5)), .ref ((h 6)), .int (nI ro), .ref ((h 7)), .ref ((h 8)), .ref ((h 9)), .ref ((h 10)), .ref ((h 11)), .ref ((h 12)), .ref ((h 13))])), ((h 1), .inl (cI, 99, .inl (sA F))), ((h 2), .inl (cI, 99, .inl fr)), ((h 3), .inl (cI, 594, .inl (kA Q))), ((h 4), .inl (cI, 200, .inl (fun zz => nI ((updN ft le c) zz)))), ((h 5), .inl (cI, 12, .inl (fun zz => nI (B zz)))), ((h 6), .inl (cI, 12, .inl (fun zz => nI (Bt zz)))), ((h 7), .inl (cJ, 16, .inr (.inl W))), ((h 8), .inl (cJ, 16, .inr (.inl M))), ((h 9), .inl (cI, 9, .inl (fun zz => nI (a1 zz)))), ((h 10), .inl (cI, 9, .inl (fun zz => nI (a2 zz)))), ((h 11), .inl (cI, 198, .inl (fun zz => nI (a3 zz)))), ((h 12), .inl (cI, 9, .inl (fun zz => nI (a4 zz)))), ((h 13), .inl (cI, 9, .inl (fA a5)))]) EE iw_X10_append_X10 tyX10 tyX10_ok nmX10 0 rfl rfl 5 (by decide) lk_X10_append_62 rfl rfl rfl (Nat.le_of_ble_eq_true rfl) rfl dX10_append_46 ?_
    refine j_aload_n EE 0 dX10_append_49 rfl rfl ?_
    refine j_get (T := TX10) EE iw_X10_append_X10 0 rfl rfl 5 (by decide) lk_X10_append_62 rfl dX10_append_50 ?_
    exact j_iret EE FF dX10_append_53 () trivial (by rw [ho]; rfl) (by rw [ho, nI_clamp (by omega)]; rfl)
  · skip
    have n11 : (b2n (okc x)) = 0 := (nI_eq (a := (b2n (okc x))) (b := 0) (by have := b2n_lt (okc x); omega) (by have := b2n_lt (okc x); omega)).mp c11
    have ho := b2n_0 n11
    refine j_iconst (v := (-1)) EE dX10_append_14 (by decide) ?_
    exact j_iret EE FF dX10_append_15 () trivial (by rw [ho]; rfl) (by rw [ho]; rfl)

set_option maxHeartbeats 4000000 in
set_option maxRecDepth 100000 in
theorem c_X10_appendF (h F Q ft B Bt a1 a2 a3 a4 a5 : Nat → Nat) (fr : Nat → Int32) (W M : Nat → Int64) (km le sp ro : Nat) (x : Int32) (hl : le = 200) : Ct l yX10_append wsX10_append (rmD (1)) D [(cI, .int), (cC, .char), (cJ, .long), (cG, .object "PushdownGameSolver$Game")] [.ref ((h 0)), .int (x)] [((h 0), .inr (6, [.ref ((h 1)), .ref ((h 2)), .ref ((h 3)), .int (nI km), .ref ((h 4)), .int (nI le), .int (nI sp), .ref ((h 5)), .ref ((h 6)), .int (nI ro), .ref ((h 7)), .ref ((h 8)), .ref ((h 9)), .ref ((h 10)), .ref ((h 11)), .ref ((h 12)), .ref ((h 13))])), ((h 1), .inl (cI, 99, .inl (sA F))), ((h 2), .inl (cI, 99, .inl fr)), ((h 3), .inl (cI, 594, .inl (kA Q))), ((h 4), .inl (cI, 200, .inl (fun zz => nI (ft zz)))), ((h 5), .inl (cI, 12, .inl (fun zz => nI (B zz)))), ((h 6), .inl (cI, 12, .inl (fun zz => nI (Bt zz)))), ((h 7), .inl (cJ, 16, .inr (.inl W))), ((h 8), .inl (cJ, 16, .inr (.inl M))), ((h 9), .inl (cI, 9, .inl (fun zz => nI (a1 zz)))), ((h 10), .inl (cI, 9, .inl (fun zz => nI (a2 zz)))), ((h 11), .inl (cI, 198, .inl (fun zz => nI (a3 zz)))), ((h 12), .inl (cI, 9, .inl (fun zz => nI (a4 zz)))), ((h 13), .inl (cI, 9, .inl (fA a5)))] (S := Unit) (fun _ => True) (fun _ => some (.int (if okc x = true then (-3) else (-1)))) (fun _ => [((h 0), .inr (6, [.ref ((h 1)), .ref ((h 2)), .ref ((h 3)), .int (nI km), .ref ((h 4)), .int (nI le), .int (nI sp), .ref ((h 5)), .ref ((h 6)), .int (nI ro), .ref ((h 7)), .ref ((h 8)), .ref ((h 9)), .ref ((h 10)), .ref ((h 11)), .ref ((h 12)), .ref ((h 13))])), ((h 1), .inl (cI, 99, .inl (sA F))), ((h 2), .inl (cI, 99, .inl fr)), ((h 3), .inl (cI, 594, .inl (kA Q))), ((h 4), .inl (cI, 200, .inl (fun zz => nI (ft zz)))), ((h 5), .inl (cI, 12, .inl (fun zz => nI (B zz)))), ((h 6), .inl (cI, 12, .inl (fun zz => nI (Bt zz)))), ((h 7), .inl (cJ, 16, .inr (.inl W))), ((h 8), .inl (cJ, 16, .inr (.inl M))), ((h 9), .inl (cI, 9, .inl (fun zz => nI (a1 zz)))), ((h 10), .inl (cI, 9, .inl (fun zz => nI (a2 zz)))), ((h 11), .inl (cI, 198, .inl (fun zz => nI (a3 zz)))), ((h 12), .inl (cI, 9, .inl (fun zz => nI (a4 zz)))), ((h 13), .inl (cI, 9, .inl (fA a5)))]) := by
  refine Ct.of (lv := [(0, .ref ((h 0))), (1, .int (x))]) (by decide) rfl (Nat.le_of_ble_eq_true rfl) rfl ?_
  intro ε hL EE FF
  refine j_iload_n EE 1 dX10_append_0 rfl rfl ?_
  refine j_i2l EE dX10_append_1 ?_
  refine j_ldc2 EE mw_X10_append_c54 dX10_append_2 ?_
  refine j_ldc2 EE mw_X10_append_c56 dX10_append_5 ?_
  refine j_S2 (n9 := 14) EE (c_X10_in ((x).toInt64) (32) (126)) gX10_append_X10_in hd_X10_in rfl ⟨rfl, rfl⟩ ⟨by decide, by decide⟩ rfl [] rfl [0, 1, 2, 3, 4, 5, 6, 7, 8, 9, 10, 11, 12, 13] [((h 0), .inr (6, [.ref ((h 1)), .ref ((h 2)), .ref ((h 3)), .int (nI km), .ref ((h 4)), .int (nI le), .int (nI sp), .ref ((h 5)), .ref ((h 6)), .int (nI ro), .ref ((h 7)), .ref ((h 8)), .ref ((h 9)), .ref ((h 10)), .ref ((h 11)), .ref ((h 12)), .ref ((h 13))])), ((h 1), .inl (cI, 99, .inl (sA F))), ((h 2), .inl (cI, 99, .inl fr)), ((h 3), .inl (cI, 594, .inl (kA Q))), ((h 4), .inl (cI, 200, .inl (fun zz => nI (ft zz)))), ((h 5), .inl (cI, 12, .inl (fun zz => nI (B zz)))), ((h 6), .inl (cI, 12, .inl (fun zz => nI (Bt zz)))), ((h 7), .inl (cJ, 16, .inr (.inl W))), ((h 8), .inl (cJ, 16, .inr (.inl M))), ((h 9), .inl (cI, 9, .inl (fun zz => nI (a1 zz)))), ((h 10), .inl (cI, 9, .inl (fun zz => nI (a2 zz)))), ((h 11), .inl (cI, 198, .inl (fun zz => nI (a3 zz)))), ((h 12), .inl (cI, 9, .inl (fun zz => nI (a4 zz)))), ((h 13), .inl (cI, 9, .inl (fA a5)))] (fun _ => rfl) [((h 0), .inr (6, [.ref ((h 1)), .ref ((h 2)), .ref ((h 3)), .int (nI km), .ref ((h 4)), .int (nI le), .int (nI sp), .ref ((h 5)), .ref ((h 6)), .int (nI ro), .ref ((h 7)), .ref ((h 8)), .ref ((h 9)), .ref ((h 10)), .ref ((h 11)), .ref ((h 12)), .ref ((h 13))])), ((h 1), .inl (cI, 99, .inl (sA F))), ((h 2), .inl (cI, 99, .inl fr)), ((h 3), .inl (cI, 594, .inl (kA Q))), ((h 4), .inl (cI, 200, .inl (fun zz => nI (ft zz)))), ((h 5), .inl (cI, 12, .inl (fun zz => nI (B zz)))), ((h 6), .inl (cI, 12, .inl (fun zz => nI (Bt zz)))), ((h 7), .inl (cJ, 16, .inr (.inl W))), ((h 8), .inl (cJ, 16, .inr (.inl M))), ((h 9), .inl (cI, 9, .inl (fun zz => nI (a1 zz)))), ((h 10), .inl (cI, 9, .inl (fun zz => nI (a2 zz)))), ((h 11), .inl (cI, 198, .inl (fun zz => nI (a3 zz)))), ((h 12), .inl (cI, 9, .inl (fun zz => nI (a4 zz)))), ((h 13), .inl (cI, 9, .inl (fA a5)))] [(h 0), (h 1), (h 2), (h 3), (h 4), (h 5), (h 6), (h 7), (h 8), (h 9), (h 10), (h 11), (h 12), (h 13)] rfl rfl rfl rfl rfl (by decide) (by decide) rfl (Nat.le_of_ble_eq_true rfl) dX10_append_8 (fun u_8 h_8 => ?_) rfl
  show J l _ D ε _ _ _ (.int (if (32) ≤ (x).toInt64 ∧ (x).toInt64 ≤ (126) then nI 1 else nI 0) :: _)
  refine j_topE (y := nI (b2n (okc x))) (in_okc x) ?_
  show J l _ D ε _ _ _ (.int (nI (b2n (okc x))) :: _)
  refine j_if_ne EE 16 dX10_append_11 (by decide) (fun c11 => ?_) (fun c11 => ?_)
  · skip
    have n11 : (b2n (okc x)) ≠ 0 := fun hq => c11 ((nI_eq (a := (b2n (okc x))) (b := 0) (by have := b2n_lt (okc x); omega) (by have := b2n_lt (okc x); omega)).mpr hq)
    have ho := b2n_ne0 n11
    refine j_aload_n EE 0 dX10_append_16 rfl rfl ?_
    refine j_get (T := TX10) EE iw_X10_append_X10 0 rfl rfl 5 (by decide) lk_X10_append_62 rfl dX10_append_17 ?_
    refine j_sipush (v := nI 200) EE dX10_append_20 (by decide) ?_
    refine j_icmp_ne EE 29 dX10_append_23 (by decide) (fun c23 => absurd (by rw [hl]) c23) (fun c23 => ?_)
    have n23 : le = 200 := (nI_eq (a := le) (b := 200) (by omega) (by omega)).mp c23
    refine j_bipush (v := (-3)) EE dX10_append_26 (by decide) ?_
    exact j_iret EE FF dX10_append_28 () trivial (by rw [ho]; rfl) rfl
  · skip
    have n11 : (b2n (okc x)) = 0 := (nI_eq (a := (b2n (okc x))) (b := 0) (by have := b2n_lt (okc x); omega) (by have := b2n_lt (okc x); omega)).mp c11
    have ho := b2n_0 n11
    refine j_iconst (v := (-1)) EE dX10_append_14 (by decide) ?_
    exact j_iret EE FF dX10_append_15 () trivial (by rw [ho]; rfl) rfl

theorem iw_X10_clearText_X10 : ∀ w ∈ wsX100, w ∈ wsX10_clearText := fun _ h => List.mem_cons_of_mem _ (List.mem_append_right _ h)
theorem lk_X10_clearText_62 : Cond.fieldLink RX10 62 (TX10 5).1 (TX10 5).2.1 (TX10 5).2.2.1 ∈ wsX10_clearText := List.mem_of_getElem? (i := 1) rfl
set_option maxHeartbeats 4000000 in
set_option maxRecDepth 100000 in
theorem c_X10_clearText (h F Q ft B Bt a1 a2 a3 a4 a5 : Nat → Nat) (fr : Nat → Int32) (W M : Nat → Int64) (km le sp ro : Nat) : Ct l yX10_clearText wsX10_clearText (rmD (0)) D [(cI, .int), (cC, .char), (cJ, .long), (cG, .object "PushdownGameSolver$Game")] [.ref ((h 0))] [((h 0), .inr (6, [.ref ((h 1)), .ref ((h 2)), .ref ((h 3)), .int (nI km), .ref ((h 4)), .int (nI le), .int (nI sp), .ref ((h 5)), .ref ((h 6)), .int (nI ro), .ref ((h 7)), .ref ((h 8)), .ref ((h 9)), .ref ((h 10)), .ref ((h 11)), .ref ((h 12)), .ref ((h 13))])), ((h 1), .inl (cI, 99, .inl (sA F))), ((h 2), .inl (cI, 99, .inl fr)), ((h 3), .inl (cI, 594, .inl (kA Q))), ((h 4), .inl (cI, 200, .inl (fun zz => nI (ft zz)))), ((h 5), .inl (cI, 12, .inl (fun zz => nI (B zz)))), ((h 6), .inl (cI, 12, .inl (fun zz => nI (Bt zz)))), ((h 7), .inl (cJ, 16, .inr (.inl W))), ((h 8), .inl (cJ, 16, .inr (.inl M))), ((h 9), .inl (cI, 9, .inl (fun zz => nI (a1 zz)))), ((h 10), .inl (cI, 9, .inl (fun zz => nI (a2 zz)))), ((h 11), .inl (cI, 198, .inl (fun zz => nI (a3 zz)))), ((h 12), .inl (cI, 9, .inl (fun zz => nI (a4 zz)))), ((h 13), .inl (cI, 9, .inl (fA a5)))] (S := Unit) (fun _ => True) (fun _ => some (.int (nI le))) (fun _ => [((h 0), .inr (6, [.ref ((h 1)), .ref ((h 2)), .ref ((h 3)), .int (nI km), .ref ((h 4)), .int (nI 0), .int (nI sp), .ref ((h 5)), .ref ((h 6)), .int (nI ro), .ref ((h 7)), .ref ((h 8)), .ref ((h 9)), .ref ((h 10)), .ref ((h 11)), .ref ((h 12)), .ref ((h 13))])), ((h 1), .inl (cI, 99, .inl (sA F))), ((h 2), .inl (cI, 99, .inl fr)), ((h 3), .inl (cI, 594, .inl (kA Q))), ((h 4), .inl (cI, 200, .inl (fun zz => nI (ft zz)))), ((h 5), .inl (cI, 12, .inl (fun zz => nI (B zz)))), ((h 6), .inl (cI, 12, .inl (fun zz => nI (Bt zz)))), ((h 7), .inl (cJ, 16, .inr (.inl W))), ((h 8), .inl (cJ, 16, .inr (.inl M))), ((h 9), .inl (cI, 9, .inl (fun zz => nI (a1 zz)))), ((h 10), .inl (cI, 9, .inl (fun zz => nI (a2 zz)))), ((h 11), .inl (cI, 198, .inl (fun zz => nI (a3 zz)))), ((h 12), .inl (cI, 9, .inl (fun zz => nI (a4 zz)))), ((h 13), .inl (cI, 9, .inl (fA a5)))]) := by
  refine Ct.of (lv := [(0, .ref ((h 0)))]) (by decide) rfl (Nat.le_of_ble_eq_true rfl) rfl ?_
  intro ε hL EE FF
  refine j_aload_n EE 0 dX10_clearText_0 rfl rfl ?_
  refine j_get (T := TX10) EE iw_X10_clearText_X10 0 rfl rfl 5 (by decide) lk_X10_clearText_62 rfl dX10_clearText_1 ?_
  refine j_istore_n EE [(1, _), (0, _)] dX10_clearText_4 rfl (Nat.lt_of_lt_of_eq (by decide) hL.symm) rfl ?_
  refine j_aload_n EE 1 dX10_clearText_5 rfl rfl ?_
  refine j_iconst (v := nI 0) EE dX10_clearText_6 (by decide) ?_
  refine j_put (T := TX10) (ws' := [((h 0), .inr (6, [.ref ((h 1)), .ref ((h 2)), .ref ((h 3)), .int (nI km), .ref ((h 4)), .int (nI 0), .int (nI sp), .ref ((h 5)), .ref ((h 6)), .int (nI ro), .ref ((h 7)), .ref ((h 8)), .ref ((h 9)), .ref ((h 10)), .ref ((h 11)), .ref ((h 12)), .ref ((h 13))])), ((h 1), .inl (cI, 99, .inl (sA F))), ((h 2), .inl (cI, 99, .inl fr)), ((h 3), .inl (cI, 594, .inl (kA Q))), ((h 4), .inl (cI, 200, .inl (fun zz => nI (ft zz)))), ((h 5), .inl (cI, 12, .inl (fun zz => nI (B zz)))), ((h 6), .inl (cI, 12, .inl (fun zz => nI (Bt zz)))), ((h 7), .inl (cJ, 16, .inr (.inl W))), ((h 8), .inl (cJ, 16, .inr (.inl M))), ((h 9), .inl (cI, 9, .inl (fun zz => nI (a1 zz)))), ((h 10), .inl (cI, 9, .inl (fun zz => nI (a2 zz)))), ((h 11), .inl (cI, 198, .inl (fun zz => nI (a3 zz)))), ((h 12), .inl (cI, 9, .inl (fun zz => nI (a4 zz)))), ((h 13), .inl (cI, 9, .inl (fA a5)))]) EE iw_X10_clearText_X10 tyX10 tyX10_ok nmX10 0 rfl rfl 5 (by decide) lk_X10_clearText_62 rfl rfl rfl (Nat.le_of_ble_eq_true rfl) rfl dX10_clearText_7 ?_
  refine j_iload_n EE 0 dX10_clearText_10 rfl rfl ?_
  exact j_iret EE FF dX10_clearText_11 () trivial (by first | rfl | simp_all) rfl

theorem iw_X10_isState_X10 : ∀ w ∈ wsX100, w ∈ wsX10_isState := fun _ h => List.mem_cons_of_mem _ (List.mem_append_right _ h)
theorem lk_X10_isState_7 : Cond.fieldLink RX10 7 (TX10 0).1 (TX10 0).2.1 (TX10 0).2.2.1 ∈ wsX10_isState := List.mem_of_getElem? (i := 1) rfl
set_option maxHeartbeats 4000000 in
set_option maxRecDepth 100000 in
theorem c_X10_isState (h F Q ft B Bt a1 a2 a3 a4 a5 : Nat → Nat) (fr : Nat → Int32) (W M : Nat → Int64) (km le sp ro : Nat) (x : Int32) (hFb : ∀ i, F i < 65536) : Ct l yX10_isState wsX10_isState (rmD (1)) D [(cI, .int), (cC, .char), (cJ, .long), (cG, .object "PushdownGameSolver$Game")] [.ref ((h 0)), .int (x)] [((h 0), .inr (6, [.ref ((h 1)), .ref ((h 2)), .ref ((h 3)), .int (nI km), .ref ((h 4)), .int (nI le), .int (nI sp), .ref ((h 5)), .ref ((h 6)), .int (nI ro), .ref ((h 7)), .ref ((h 8)), .ref ((h 9)), .ref ((h 10)), .ref ((h 11)), .ref ((h 12)), .ref ((h 13))])), ((h 1), .inl (cI, 99, .inl (sA F))), ((h 2), .inl (cI, 99, .inl fr)), ((h 3), .inl (cI, 594, .inl (kA Q))), ((h 4), .inl (cI, 200, .inl (fun zz => nI (ft zz)))), ((h 5), .inl (cI, 12, .inl (fun zz => nI (B zz)))), ((h 6), .inl (cI, 12, .inl (fun zz => nI (Bt zz)))), ((h 7), .inl (cJ, 16, .inr (.inl W))), ((h 8), .inl (cJ, 16, .inr (.inl M))), ((h 9), .inl (cI, 9, .inl (fun zz => nI (a1 zz)))), ((h 10), .inl (cI, 9, .inl (fun zz => nI (a2 zz)))), ((h 11), .inl (cI, 198, .inl (fun zz => nI (a3 zz)))), ((h 12), .inl (cI, 9, .inl (fun zz => nI (a4 zz)))), ((h 13), .inl (cI, 9, .inl (fA a5)))] (S := Unit) (fun _ => True) (fun _ => some (.int (nI (b2n (inR x (F 0)))))) (fun _ => [((h 0), .inr (6, [.ref ((h 1)), .ref ((h 2)), .ref ((h 3)), .int (nI km), .ref ((h 4)), .int (nI le), .int (nI sp), .ref ((h 5)), .ref ((h 6)), .int (nI ro), .ref ((h 7)), .ref ((h 8)), .ref ((h 9)), .ref ((h 10)), .ref ((h 11)), .ref ((h 12)), .ref ((h 13))])), ((h 1), .inl (cI, 99, .inl (sA F))), ((h 2), .inl (cI, 99, .inl fr)), ((h 3), .inl (cI, 594, .inl (kA Q))), ((h 4), .inl (cI, 200, .inl (fun zz => nI (ft zz)))), ((h 5), .inl (cI, 12, .inl (fun zz => nI (B zz)))), ((h 6), .inl (cI, 12, .inl (fun zz => nI (Bt zz)))), ((h 7), .inl (cJ, 16, .inr (.inl W))), ((h 8), .inl (cJ, 16, .inr (.inl M))), ((h 9), .inl (cI, 9, .inl (fun zz => nI (a1 zz)))), ((h 10), .inl (cI, 9, .inl (fun zz => nI (a2 zz)))), ((h 11), .inl (cI, 198, .inl (fun zz => nI (a3 zz)))), ((h 12), .inl (cI, 9, .inl (fun zz => nI (a4 zz)))), ((h 13), .inl (cI, 9, .inl (fA a5)))]) := by
  refine Ct.of (lv := [(0, .ref ((h 0))), (1, .int (x))]) (by decide) rfl (Nat.le_of_ble_eq_true rfl) rfl ?_
  intro ε hL EE FF
  have hb9 := hFb 0
  refine j_iload_n EE 1 dX10_isState_0 rfl rfl ?_
  refine j_i2l EE dX10_isState_1 ?_
  refine j_lconst (v := lN 0) EE dX10_isState_2 (by decide) ?_
  refine j_aload_n EE 0 dX10_isState_3 rfl rfl ?_
  refine j_get (T := TX10) EE iw_X10_isState_X10 0 rfl rfl 0 (by decide) lk_X10_isState_7 rfl dX10_isState_4 ?_
  refine j_iconst (v := nI 0) EE dX10_isState_7 (by decide) ?_
  refine j_iald EE 1 0 rfl rfl (vp_in_nI (n := 0) (by omega) (by decide)) dX10_isState_8 ?_
  refine j_topE (congrArg (sA F) (nI_clamp (n := 0) (by omega))) ?_
  refine j_topE (y := nI (F 0)) (sA_n (by omega)) ?_
  refine j_iconst (v := nI 1) EE dX10_isState_9 (by decide) ?_
  refine j_isub EE dX10_isState_10 ?_
  refine j_topE (y := nI (F 0) - nI 1) rfl ?_
  refine j_i2l EE dX10_isState_11 ?_
  refine j_S2 (n9 := 14) EE (c_X10_in ((x).toInt64) (lN 0) ((nI (F 0) - nI 1).toInt64)) gX10_isState_X10_in hd_X10_in rfl ⟨rfl, rfl⟩ ⟨by decide, by decide⟩ rfl [] rfl [0, 1, 2, 3, 4, 5, 6, 7, 8, 9, 10, 11, 12, 13] [((h 0), .inr (6, [.ref ((h 1)), .ref ((h 2)), .ref ((h 3)), .int (nI km), .ref ((h 4)), .int (nI le), .int (nI sp), .ref ((h 5)), .ref ((h 6)), .int (nI ro), .ref ((h 7)), .ref ((h 8)), .ref ((h 9)), .ref ((h 10)), .ref ((h 11)), .ref ((h 12)), .ref ((h 13))])), ((h 1), .inl (cI, 99, .inl (sA F))), ((h 2), .inl (cI, 99, .inl fr)), ((h 3), .inl (cI, 594, .inl (kA Q))), ((h 4), .inl (cI, 200, .inl (fun zz => nI (ft zz)))), ((h 5), .inl (cI, 12, .inl (fun zz => nI (B zz)))), ((h 6), .inl (cI, 12, .inl (fun zz => nI (Bt zz)))), ((h 7), .inl (cJ, 16, .inr (.inl W))), ((h 8), .inl (cJ, 16, .inr (.inl M))), ((h 9), .inl (cI, 9, .inl (fun zz => nI (a1 zz)))), ((h 10), .inl (cI, 9, .inl (fun zz => nI (a2 zz)))), ((h 11), .inl (cI, 198, .inl (fun zz => nI (a3 zz)))), ((h 12), .inl (cI, 9, .inl (fun zz => nI (a4 zz)))), ((h 13), .inl (cI, 9, .inl (fA a5)))] (fun _ => rfl) [((h 0), .inr (6, [.ref ((h 1)), .ref ((h 2)), .ref ((h 3)), .int (nI km), .ref ((h 4)), .int (nI le), .int (nI sp), .ref ((h 5)), .ref ((h 6)), .int (nI ro), .ref ((h 7)), .ref ((h 8)), .ref ((h 9)), .ref ((h 10)), .ref ((h 11)), .ref ((h 12)), .ref ((h 13))])), ((h 1), .inl (cI, 99, .inl (sA F))), ((h 2), .inl (cI, 99, .inl fr)), ((h 3), .inl (cI, 594, .inl (kA Q))), ((h 4), .inl (cI, 200, .inl (fun zz => nI (ft zz)))), ((h 5), .inl (cI, 12, .inl (fun zz => nI (B zz)))), ((h 6), .inl (cI, 12, .inl (fun zz => nI (Bt zz)))), ((h 7), .inl (cJ, 16, .inr (.inl W))), ((h 8), .inl (cJ, 16, .inr (.inl M))), ((h 9), .inl (cI, 9, .inl (fun zz => nI (a1 zz)))), ((h 10), .inl (cI, 9, .inl (fun zz => nI (a2 zz)))), ((h 11), .inl (cI, 198, .inl (fun zz => nI (a3 zz)))), ((h 12), .inl (cI, 9, .inl (fun zz => nI (a4 zz)))), ((h 13), .inl (cI, 9, .inl (fA a5)))] [(h 0), (h 1), (h 2), (h 3), (h 4), (h 5), (h 6), (h 7), (h 8), (h 9), (h 10), (h 11), (h 12), (h 13)] rfl rfl rfl rfl rfl (by decide) (by decide) rfl (Nat.le_of_ble_eq_true rfl) dX10_isState_12 (fun u_12 h_12 => ?_) rfl
  show J l _ D ε _ _ _ (.int (if lN 0 ≤ (x).toInt64 ∧ (x).toInt64 ≤ (nI (F 0) - nI 1).toInt64 then nI 1 else nI 0) :: _)
  refine j_topE (y := nI (b2n (inR x (F 0)))) (in_inR x (by omega)) ?_
  show J l _ D ε _ _ _ (.int (nI (b2n (inR x (F 0)))) :: _)
  exact j_zret EE FF (by have hb8 := b2n_lt (inR x (F 0)); rcases (show b2n (inR x (F 0)) = 0 ∨ b2n (inR x (F 0)) = 1 by omega) with hz | hz <;> rw [hz] <;> decide) dX10_isState_15 () trivial (by first | rfl | simp_all) rfl

theorem iw_X10_isSymbol_X10 : ∀ w ∈ wsX100, w ∈ wsX10_isSymbol := fun _ h => List.mem_cons_of_mem _ (List.mem_append_right _ h)
theorem lk_X10_isSymbol_7 : Cond.fieldLink RX10 7 (TX10 0).1 (TX10 0).2.1 (TX10 0).2.2.1 ∈ wsX10_isSymbol := List.mem_of_getElem? (i := 1) rfl
set_option maxHeartbeats 4000000 in
set_option maxRecDepth 100000 in
theorem c_X10_isSymbol (h F Q ft B Bt a1 a2 a3 a4 a5 : Nat → Nat) (fr : Nat → Int32) (W M : Nat → Int64) (km le sp ro : Nat) (x : Int32) (hFb : ∀ i, F i < 65536) : Ct l yX10_isSymbol wsX10_isSymbol (rmD (1)) D [(cI, .int), (cC, .char), (cJ, .long), (cG, .object "PushdownGameSolver$Game")] [.ref ((h 0)), .int (x)] [((h 0), .inr (6, [.ref ((h 1)), .ref ((h 2)), .ref ((h 3)), .int (nI km), .ref ((h 4)), .int (nI le), .int (nI sp), .ref ((h 5)), .ref ((h 6)), .int (nI ro), .ref ((h 7)), .ref ((h 8)), .ref ((h 9)), .ref ((h 10)), .ref ((h 11)), .ref ((h 12)), .ref ((h 13))])), ((h 1), .inl (cI, 99, .inl (sA F))), ((h 2), .inl (cI, 99, .inl fr)), ((h 3), .inl (cI, 594, .inl (kA Q))), ((h 4), .inl (cI, 200, .inl (fun zz => nI (ft zz)))), ((h 5), .inl (cI, 12, .inl (fun zz => nI (B zz)))), ((h 6), .inl (cI, 12, .inl (fun zz => nI (Bt zz)))), ((h 7), .inl (cJ, 16, .inr (.inl W))), ((h 8), .inl (cJ, 16, .inr (.inl M))), ((h 9), .inl (cI, 9, .inl (fun zz => nI (a1 zz)))), ((h 10), .inl (cI, 9, .inl (fun zz => nI (a2 zz)))), ((h 11), .inl (cI, 198, .inl (fun zz => nI (a3 zz)))), ((h 12), .inl (cI, 9, .inl (fun zz => nI (a4 zz)))), ((h 13), .inl (cI, 9, .inl (fA a5)))] (S := Unit) (fun _ => True) (fun _ => some (.int (nI (b2n (inR x (F 1)))))) (fun _ => [((h 0), .inr (6, [.ref ((h 1)), .ref ((h 2)), .ref ((h 3)), .int (nI km), .ref ((h 4)), .int (nI le), .int (nI sp), .ref ((h 5)), .ref ((h 6)), .int (nI ro), .ref ((h 7)), .ref ((h 8)), .ref ((h 9)), .ref ((h 10)), .ref ((h 11)), .ref ((h 12)), .ref ((h 13))])), ((h 1), .inl (cI, 99, .inl (sA F))), ((h 2), .inl (cI, 99, .inl fr)), ((h 3), .inl (cI, 594, .inl (kA Q))), ((h 4), .inl (cI, 200, .inl (fun zz => nI (ft zz)))), ((h 5), .inl (cI, 12, .inl (fun zz => nI (B zz)))), ((h 6), .inl (cI, 12, .inl (fun zz => nI (Bt zz)))), ((h 7), .inl (cJ, 16, .inr (.inl W))), ((h 8), .inl (cJ, 16, .inr (.inl M))), ((h 9), .inl (cI, 9, .inl (fun zz => nI (a1 zz)))), ((h 10), .inl (cI, 9, .inl (fun zz => nI (a2 zz)))), ((h 11), .inl (cI, 198, .inl (fun zz => nI (a3 zz)))), ((h 12), .inl (cI, 9, .inl (fun zz => nI (a4 zz)))), ((h 13), .inl (cI, 9, .inl (fA a5)))]) := by
  refine Ct.of (lv := [(0, .ref ((h 0))), (1, .int (x))]) (by decide) rfl (Nat.le_of_ble_eq_true rfl) rfl ?_
  intro ε hL EE FF
  have hb9 := hFb 1
  refine j_iload_n EE 1 dX10_isSymbol_0 rfl rfl ?_
  refine j_i2l EE dX10_isSymbol_1 ?_
  refine j_lconst (v := lN 0) EE dX10_isSymbol_2 (by decide) ?_
  refine j_aload_n EE 0 dX10_isSymbol_3 rfl rfl ?_
  refine j_get (T := TX10) EE iw_X10_isSymbol_X10 0 rfl rfl 0 (by decide) lk_X10_isSymbol_7 rfl dX10_isSymbol_4 ?_
  refine j_iconst (v := nI 1) EE dX10_isSymbol_7 (by decide) ?_
  refine j_iald EE 1 0 rfl rfl (vp_in_nI (n := 1) (by omega) (by decide)) dX10_isSymbol_8 ?_
  refine j_topE (congrArg (sA F) (nI_clamp (n := 1) (by omega))) ?_
  refine j_topE (y := nI (F 1)) (sA_n (by omega)) ?_
  refine j_iconst (v := nI 1) EE dX10_isSymbol_9 (by decide) ?_
  refine j_isub EE dX10_isSymbol_10 ?_
  refine j_topE (y := nI (F 1) - nI 1) rfl ?_
  refine j_i2l EE dX10_isSymbol_11 ?_
  refine j_S2 (n9 := 14) EE (c_X10_in ((x).toInt64) (lN 0) ((nI (F 1) - nI 1).toInt64)) gX10_isSymbol_X10_in hd_X10_in rfl ⟨rfl, rfl⟩ ⟨by decide, by decide⟩ rfl [] rfl [0, 1, 2, 3, 4, 5, 6, 7, 8, 9, 10, 11, 12, 13] [((h 0), .inr (6, [.ref ((h 1)), .ref ((h 2)), .ref ((h 3)), .int (nI km), .ref ((h 4)), .int (nI le), .int (nI sp), .ref ((h 5)), .ref ((h 6)), .int (nI ro), .ref ((h 7)), .ref ((h 8)), .ref ((h 9)), .ref ((h 10)), .ref ((h 11)), .ref ((h 12)), .ref ((h 13))])), ((h 1), .inl (cI, 99, .inl (sA F))), ((h 2), .inl (cI, 99, .inl fr)), ((h 3), .inl (cI, 594, .inl (kA Q))), ((h 4), .inl (cI, 200, .inl (fun zz => nI (ft zz)))), ((h 5), .inl (cI, 12, .inl (fun zz => nI (B zz)))), ((h 6), .inl (cI, 12, .inl (fun zz => nI (Bt zz)))), ((h 7), .inl (cJ, 16, .inr (.inl W))), ((h 8), .inl (cJ, 16, .inr (.inl M))), ((h 9), .inl (cI, 9, .inl (fun zz => nI (a1 zz)))), ((h 10), .inl (cI, 9, .inl (fun zz => nI (a2 zz)))), ((h 11), .inl (cI, 198, .inl (fun zz => nI (a3 zz)))), ((h 12), .inl (cI, 9, .inl (fun zz => nI (a4 zz)))), ((h 13), .inl (cI, 9, .inl (fA a5)))] (fun _ => rfl) [((h 0), .inr (6, [.ref ((h 1)), .ref ((h 2)), .ref ((h 3)), .int (nI km), .ref ((h 4)), .int (nI le), .int (nI sp), .ref ((h 5)), .ref ((h 6)), .int (nI ro), .ref ((h 7)), .ref ((h 8)), .ref ((h 9)), .ref ((h 10)), .ref ((h 11)), .ref ((h 12)), .ref ((h 13))])), ((h 1), .inl (cI, 99, .inl (sA F))), ((h 2), .inl (cI, 99, .inl fr)), ((h 3), .inl (cI, 594, .inl (kA Q))), ((h 4), .inl (cI, 200, .inl (fun zz => nI (ft zz)))), ((h 5), .inl (cI, 12, .inl (fun zz => nI (B zz)))), ((h 6), .inl (cI, 12, .inl (fun zz => nI (Bt zz)))), ((h 7), .inl (cJ, 16, .inr (.inl W))), ((h 8), .inl (cJ, 16, .inr (.inl M))), ((h 9), .inl (cI, 9, .inl (fun zz => nI (a1 zz)))), ((h 10), .inl (cI, 9, .inl (fun zz => nI (a2 zz)))), ((h 11), .inl (cI, 198, .inl (fun zz => nI (a3 zz)))), ((h 12), .inl (cI, 9, .inl (fun zz => nI (a4 zz)))), ((h 13), .inl (cI, 9, .inl (fA a5)))] [(h 0), (h 1), (h 2), (h 3), (h 4), (h 5), (h 6), (h 7), (h 8), (h 9), (h 10), (h 11), (h 12), (h 13)] rfl rfl rfl rfl rfl (by decide) (by decide) rfl (Nat.le_of_ble_eq_true rfl) dX10_isSymbol_12 (fun u_12 h_12 => ?_) rfl
  show J l _ D ε _ _ _ (.int (if lN 0 ≤ (x).toInt64 ∧ (x).toInt64 ≤ (nI (F 1) - nI 1).toInt64 then nI 1 else nI 0) :: _)
  refine j_topE (y := nI (b2n (inR x (F 1)))) (in_inR x (by omega)) ?_
  show J l _ D ε _ _ _ (.int (nI (b2n (inR x (F 1)))) :: _)
  exact j_zret EE FF (by have hb8 := b2n_lt (inR x (F 1)); rcases (show b2n (inR x (F 1)) = 0 ∨ b2n (inR x (F 1)) = 1 by omega) with hz | hz <;> rw [hz] <;> decide) dX10_isSymbol_15 () trivial (by first | rfl | simp_all) rfl

theorem iw_X10_isRule_X10 : ∀ w ∈ wsX100, w ∈ wsX10_isRule := fun _ h => List.mem_cons_of_mem _ (List.mem_append_right _ h)
theorem lk_X10_isRule_7 : Cond.fieldLink RX10 7 (TX10 0).1 (TX10 0).2.1 (TX10 0).2.2.1 ∈ wsX10_isRule := List.mem_of_getElem? (i := 1) rfl
set_option maxHeartbeats 4000000 in
set_option maxRecDepth 100000 in
theorem c_X10_isRule (h F Q ft B Bt a1 a2 a3 a4 a5 : Nat → Nat) (fr : Nat → Int32) (W M : Nat → Int64) (km le sp ro : Nat) (x : Int32) (hFb : ∀ i, F i < 65536) : Ct l yX10_isRule wsX10_isRule (rmD (1)) D [(cI, .int), (cC, .char), (cJ, .long), (cG, .object "PushdownGameSolver$Game")] [.ref ((h 0)), .int (x)] [((h 0), .inr (6, [.ref ((h 1)), .ref ((h 2)), .ref ((h 3)), .int (nI km), .ref ((h 4)), .int (nI le), .int (nI sp), .ref ((h 5)), .ref ((h 6)), .int (nI ro), .ref ((h 7)), .ref ((h 8)), .ref ((h 9)), .ref ((h 10)), .ref ((h 11)), .ref ((h 12)), .ref ((h 13))])), ((h 1), .inl (cI, 99, .inl (sA F))), ((h 2), .inl (cI, 99, .inl fr)), ((h 3), .inl (cI, 594, .inl (kA Q))), ((h 4), .inl (cI, 200, .inl (fun zz => nI (ft zz)))), ((h 5), .inl (cI, 12, .inl (fun zz => nI (B zz)))), ((h 6), .inl (cI, 12, .inl (fun zz => nI (Bt zz)))), ((h 7), .inl (cJ, 16, .inr (.inl W))), ((h 8), .inl (cJ, 16, .inr (.inl M))), ((h 9), .inl (cI, 9, .inl (fun zz => nI (a1 zz)))), ((h 10), .inl (cI, 9, .inl (fun zz => nI (a2 zz)))), ((h 11), .inl (cI, 198, .inl (fun zz => nI (a3 zz)))), ((h 12), .inl (cI, 9, .inl (fun zz => nI (a4 zz)))), ((h 13), .inl (cI, 9, .inl (fA a5)))] (S := Unit) (fun _ => True) (fun _ => some (.int (nI (b2n (inR x (F 4)))))) (fun _ => [((h 0), .inr (6, [.ref ((h 1)), .ref ((h 2)), .ref ((h 3)), .int (nI km), .ref ((h 4)), .int (nI le), .int (nI sp), .ref ((h 5)), .ref ((h 6)), .int (nI ro), .ref ((h 7)), .ref ((h 8)), .ref ((h 9)), .ref ((h 10)), .ref ((h 11)), .ref ((h 12)), .ref ((h 13))])), ((h 1), .inl (cI, 99, .inl (sA F))), ((h 2), .inl (cI, 99, .inl fr)), ((h 3), .inl (cI, 594, .inl (kA Q))), ((h 4), .inl (cI, 200, .inl (fun zz => nI (ft zz)))), ((h 5), .inl (cI, 12, .inl (fun zz => nI (B zz)))), ((h 6), .inl (cI, 12, .inl (fun zz => nI (Bt zz)))), ((h 7), .inl (cJ, 16, .inr (.inl W))), ((h 8), .inl (cJ, 16, .inr (.inl M))), ((h 9), .inl (cI, 9, .inl (fun zz => nI (a1 zz)))), ((h 10), .inl (cI, 9, .inl (fun zz => nI (a2 zz)))), ((h 11), .inl (cI, 198, .inl (fun zz => nI (a3 zz)))), ((h 12), .inl (cI, 9, .inl (fun zz => nI (a4 zz)))), ((h 13), .inl (cI, 9, .inl (fA a5)))]) := by
  refine Ct.of (lv := [(0, .ref ((h 0))), (1, .int (x))]) (by decide) rfl (Nat.le_of_ble_eq_true rfl) rfl ?_
  intro ε hL EE FF
  have hb9 := hFb 4
  refine j_iload_n EE 1 dX10_isRule_0 rfl rfl ?_
  refine j_i2l EE dX10_isRule_1 ?_
  refine j_lconst (v := lN 0) EE dX10_isRule_2 (by decide) ?_
  refine j_aload_n EE 0 dX10_isRule_3 rfl rfl ?_
  refine j_get (T := TX10) EE iw_X10_isRule_X10 0 rfl rfl 0 (by decide) lk_X10_isRule_7 rfl dX10_isRule_4 ?_
  refine j_iconst (v := nI 4) EE dX10_isRule_7 (by decide) ?_
  refine j_iald EE 1 0 rfl rfl (vp_in_nI (n := 4) (by omega) (by decide)) dX10_isRule_8 ?_
  refine j_topE (congrArg (sA F) (nI_clamp (n := 4) (by omega))) ?_
  refine j_topE (y := nI (F 4)) (sA_n (by omega)) ?_
  refine j_iconst (v := nI 1) EE dX10_isRule_9 (by decide) ?_
  refine j_isub EE dX10_isRule_10 ?_
  refine j_topE (y := nI (F 4) - nI 1) rfl ?_
  refine j_i2l EE dX10_isRule_11 ?_
  refine j_S2 (n9 := 14) EE (c_X10_in ((x).toInt64) (lN 0) ((nI (F 4) - nI 1).toInt64)) gX10_isRule_X10_in hd_X10_in rfl ⟨rfl, rfl⟩ ⟨by decide, by decide⟩ rfl [] rfl [0, 1, 2, 3, 4, 5, 6, 7, 8, 9, 10, 11, 12, 13] [((h 0), .inr (6, [.ref ((h 1)), .ref ((h 2)), .ref ((h 3)), .int (nI km), .ref ((h 4)), .int (nI le), .int (nI sp), .ref ((h 5)), .ref ((h 6)), .int (nI ro), .ref ((h 7)), .ref ((h 8)), .ref ((h 9)), .ref ((h 10)), .ref ((h 11)), .ref ((h 12)), .ref ((h 13))])), ((h 1), .inl (cI, 99, .inl (sA F))), ((h 2), .inl (cI, 99, .inl fr)), ((h 3), .inl (cI, 594, .inl (kA Q))), ((h 4), .inl (cI, 200, .inl (fun zz => nI (ft zz)))), ((h 5), .inl (cI, 12, .inl (fun zz => nI (B zz)))), ((h 6), .inl (cI, 12, .inl (fun zz => nI (Bt zz)))), ((h 7), .inl (cJ, 16, .inr (.inl W))), ((h 8), .inl (cJ, 16, .inr (.inl M))), ((h 9), .inl (cI, 9, .inl (fun zz => nI (a1 zz)))), ((h 10), .inl (cI, 9, .inl (fun zz => nI (a2 zz)))), ((h 11), .inl (cI, 198, .inl (fun zz => nI (a3 zz)))), ((h 12), .inl (cI, 9, .inl (fun zz => nI (a4 zz)))), ((h 13), .inl (cI, 9, .inl (fA a5)))] (fun _ => rfl) [((h 0), .inr (6, [.ref ((h 1)), .ref ((h 2)), .ref ((h 3)), .int (nI km), .ref ((h 4)), .int (nI le), .int (nI sp), .ref ((h 5)), .ref ((h 6)), .int (nI ro), .ref ((h 7)), .ref ((h 8)), .ref ((h 9)), .ref ((h 10)), .ref ((h 11)), .ref ((h 12)), .ref ((h 13))])), ((h 1), .inl (cI, 99, .inl (sA F))), ((h 2), .inl (cI, 99, .inl fr)), ((h 3), .inl (cI, 594, .inl (kA Q))), ((h 4), .inl (cI, 200, .inl (fun zz => nI (ft zz)))), ((h 5), .inl (cI, 12, .inl (fun zz => nI (B zz)))), ((h 6), .inl (cI, 12, .inl (fun zz => nI (Bt zz)))), ((h 7), .inl (cJ, 16, .inr (.inl W))), ((h 8), .inl (cJ, 16, .inr (.inl M))), ((h 9), .inl (cI, 9, .inl (fun zz => nI (a1 zz)))), ((h 10), .inl (cI, 9, .inl (fun zz => nI (a2 zz)))), ((h 11), .inl (cI, 198, .inl (fun zz => nI (a3 zz)))), ((h 12), .inl (cI, 9, .inl (fun zz => nI (a4 zz)))), ((h 13), .inl (cI, 9, .inl (fA a5)))] [(h 0), (h 1), (h 2), (h 3), (h 4), (h 5), (h 6), (h 7), (h 8), (h 9), (h 10), (h 11), (h 12), (h 13)] rfl rfl rfl rfl rfl (by decide) (by decide) rfl (Nat.le_of_ble_eq_true rfl) dX10_isRule_12 (fun u_12 h_12 => ?_) rfl
  show J l _ D ε _ _ _ (.int (if lN 0 ≤ (x).toInt64 ∧ (x).toInt64 ≤ (nI (F 4) - nI 1).toInt64 then nI 1 else nI 0) :: _)
  refine j_topE (y := nI (b2n (inR x (F 4)))) (in_inR x (by omega)) ?_
  show J l _ D ε _ _ _ (.int (nI (b2n (inR x (F 4)))) :: _)
  exact j_zret EE FF (by have hb8 := b2n_lt (inR x (F 4)); rcases (show b2n (inR x (F 4)) = 0 ∨ b2n (inR x (F 4)) = 1 by omega) with hz | hz <;> rw [hz] <;> decide) dX10_isRule_15 () trivial (by first | rfl | simp_all) rfl

theorem iw_X10_ofRule_X10 : ∀ w ∈ wsX100, w ∈ wsX10_ofRule := fun _ h => List.mem_cons_of_mem _ (List.mem_append_right _ h)
theorem lk_X10_ofRule_7 : Cond.fieldLink RX10 7 (TX10 0).1 (TX10 0).2.1 (TX10 0).2.2.1 ∈ wsX10_ofRule := List.mem_of_getElem? (i := 1) rfl
set_option maxHeartbeats 4000000 in
set_option maxRecDepth 100000 in
theorem c_X10_ofRule (h F Q ft B Bt a1 a2 a3 a4 a5 : Nat → Nat) (fr : Nat → Int32) (W M : Nat → Int64) (km le sp ro : Nat) (r w : Nat) (hr : r < 16) (hw : w < 3) : Ct l yX10_ofRule wsX10_ofRule (rmD (0)) D [(cI, .int), (cC, .char), (cJ, .long), (cG, .object "PushdownGameSolver$Game")] [.ref ((h 0)), .int (nI r), .int (nI w)] [((h 0), .inr (6, [.ref ((h 1)), .ref ((h 2)), .ref ((h 3)), .int (nI km), .ref ((h 4)), .int (nI le), .int (nI sp), .ref ((h 5)), .ref ((h 6)), .int (nI ro), .ref ((h 7)), .ref ((h 8)), .ref ((h 9)), .ref ((h 10)), .ref ((h 11)), .ref ((h 12)), .ref ((h 13))])), ((h 1), .inl (cI, 99, .inl (sA F))), ((h 2), .inl (cI, 99, .inl fr)), ((h 3), .inl (cI, 594, .inl (kA Q))), ((h 4), .inl (cI, 200, .inl (fun zz => nI (ft zz)))), ((h 5), .inl (cI, 12, .inl (fun zz => nI (B zz)))), ((h 6), .inl (cI, 12, .inl (fun zz => nI (Bt zz)))), ((h 7), .inl (cJ, 16, .inr (.inl W))), ((h 8), .inl (cJ, 16, .inr (.inl M))), ((h 9), .inl (cI, 9, .inl (fun zz => nI (a1 zz)))), ((h 10), .inl (cI, 9, .inl (fun zz => nI (a2 zz)))), ((h 11), .inl (cI, 198, .inl (fun zz => nI (a3 zz)))), ((h 12), .inl (cI, 9, .inl (fun zz => nI (a4 zz)))), ((h 13), .inl (cI, 9, .inl (fA a5)))] (S := Unit) (fun _ => True) (fun _ => some (.int (nI (F (5 + 5 * r + w))))) (fun _ => [((h 0), .inr (6, [.ref ((h 1)), .ref ((h 2)), .ref ((h 3)), .int (nI km), .ref ((h 4)), .int (nI le), .int (nI sp), .ref ((h 5)), .ref ((h 6)), .int (nI ro), .ref ((h 7)), .ref ((h 8)), .ref ((h 9)), .ref ((h 10)), .ref ((h 11)), .ref ((h 12)), .ref ((h 13))])), ((h 1), .inl (cI, 99, .inl (sA F))), ((h 2), .inl (cI, 99, .inl fr)), ((h 3), .inl (cI, 594, .inl (kA Q))), ((h 4), .inl (cI, 200, .inl (fun zz => nI (ft zz)))), ((h 5), .inl (cI, 12, .inl (fun zz => nI (B zz)))), ((h 6), .inl (cI, 12, .inl (fun zz => nI (Bt zz)))), ((h 7), .inl (cJ, 16, .inr (.inl W))), ((h 8), .inl (cJ, 16, .inr (.inl M))), ((h 9), .inl (cI, 9, .inl (fun zz => nI (a1 zz)))), ((h 10), .inl (cI, 9, .inl (fun zz => nI (a2 zz)))), ((h 11), .inl (cI, 198, .inl (fun zz => nI (a3 zz)))), ((h 12), .inl (cI, 9, .inl (fun zz => nI (a4 zz)))), ((h 13), .inl (cI, 9, .inl (fA a5)))]) := by
  refine Ct.of (lv := [(0, .ref ((h 0))), (1, .int (nI r)), (2, .int (nI w))]) (by decide) rfl (Nat.le_of_ble_eq_true rfl) rfl ?_
  intro ε hL EE FF
  refine j_aload_n EE 0 dX10_ofRule_0 rfl rfl ?_
  refine j_get (T := TX10) EE iw_X10_ofRule_X10 0 rfl rfl 0 (by decide) lk_X10_ofRule_7 rfl dX10_ofRule_1 ?_
  refine j_iconst (v := nI 5) EE dX10_ofRule_4 (by decide) ?_
  refine j_iconst (v := nI 5) EE dX10_ofRule_5 (by decide) ?_
  refine j_iload_n EE 1 dX10_ofRule_6 rfl rfl ?_
  refine j_imul EE dX10_ofRule_7 ?_
  refine j_topE (pk_mul 5 r) ?_
  refine j_iadd EE dX10_ofRule_8 ?_
  refine j_topE (nI_add 5 (5 * r)) ?_
  refine j_iload_n EE 2 dX10_ofRule_9 rfl rfl ?_
  refine j_iadd EE dX10_ofRule_10 ?_
  refine j_topE (nI_add (5 + (5 * r)) w) ?_
  refine j_iald EE 1 0 rfl rfl (vp_in_nI (n := (5 + (5 * r)) + w) (by omega) (by decide)) dX10_ofRule_11 ?_
  refine j_topE (congrArg (sA F) (nI_clamp (n := (5 + (5 * r)) + w) (by omega))) ?_
  refine j_topE (y := nI (F ((5 + (5 * r)) + w))) (sA_n (by omega)) ?_
  exact j_iret EE FF dX10_ofRule_12 () trivial (by first | rfl | simp_all) rfl

set_option maxHeartbeats 4000000 in
set_option maxRecDepth 100000 in
theorem c_X10_ofRuleW (h F Q ft B Bt a1 a2 a3 a4 a5 : Nat → Nat) (fr : Nat → Int32) (W M : Nat → Int64) (km le sp ro : Nat) (r w : Nat) (hr : r < 16) (hw : 3 ≤ w) (hw2 : w < 5) : Ct l yX10_ofRule wsX10_ofRule (rmD (0)) D [(cI, .int), (cC, .char), (cJ, .long), (cG, .object "PushdownGameSolver$Game")] [.ref ((h 0)), .int (nI r), .int (nI w)] [((h 0), .inr (6, [.ref ((h 1)), .ref ((h 2)), .ref ((h 3)), .int (nI km), .ref ((h 4)), .int (nI le), .int (nI sp), .ref ((h 5)), .ref ((h 6)), .int (nI ro), .ref ((h 7)), .ref ((h 8)), .ref ((h 9)), .ref ((h 10)), .ref ((h 11)), .ref ((h 12)), .ref ((h 13))])), ((h 1), .inl (cI, 99, .inl (sA F))), ((h 2), .inl (cI, 99, .inl fr)), ((h 3), .inl (cI, 594, .inl (kA Q))), ((h 4), .inl (cI, 200, .inl (fun zz => nI (ft zz)))), ((h 5), .inl (cI, 12, .inl (fun zz => nI (B zz)))), ((h 6), .inl (cI, 12, .inl (fun zz => nI (Bt zz)))), ((h 7), .inl (cJ, 16, .inr (.inl W))), ((h 8), .inl (cJ, 16, .inr (.inl M))), ((h 9), .inl (cI, 9, .inl (fun zz => nI (a1 zz)))), ((h 10), .inl (cI, 9, .inl (fun zz => nI (a2 zz)))), ((h 11), .inl (cI, 198, .inl (fun zz => nI (a3 zz)))), ((h 12), .inl (cI, 9, .inl (fun zz => nI (a4 zz)))), ((h 13), .inl (cI, 9, .inl (fA a5)))] (S := Unit) (fun _ => True) (fun _ => some (.int (nI (F (5 + 5 * r + w)) - nI 1))) (fun _ => [((h 0), .inr (6, [.ref ((h 1)), .ref ((h 2)), .ref ((h 3)), .int (nI km), .ref ((h 4)), .int (nI le), .int (nI sp), .ref ((h 5)), .ref ((h 6)), .int (nI ro), .ref ((h 7)), .ref ((h 8)), .ref ((h 9)), .ref ((h 10)), .ref ((h 11)), .ref ((h 12)), .ref ((h 13))])), ((h 1), .inl (cI, 99, .inl (sA F))), ((h 2), .inl (cI, 99, .inl fr)), ((h 3), .inl (cI, 594, .inl (kA Q))), ((h 4), .inl (cI, 200, .inl (fun zz => nI (ft zz)))), ((h 5), .inl (cI, 12, .inl (fun zz => nI (B zz)))), ((h 6), .inl (cI, 12, .inl (fun zz => nI (Bt zz)))), ((h 7), .inl (cJ, 16, .inr (.inl W))), ((h 8), .inl (cJ, 16, .inr (.inl M))), ((h 9), .inl (cI, 9, .inl (fun zz => nI (a1 zz)))), ((h 10), .inl (cI, 9, .inl (fun zz => nI (a2 zz)))), ((h 11), .inl (cI, 198, .inl (fun zz => nI (a3 zz)))), ((h 12), .inl (cI, 9, .inl (fun zz => nI (a4 zz)))), ((h 13), .inl (cI, 9, .inl (fA a5)))]) := by
  refine Ct.of (lv := [(0, .ref ((h 0))), (1, .int (nI r)), (2, .int (nI w))]) (by decide) rfl (Nat.le_of_ble_eq_true rfl) rfl ?_
  intro ε hL EE FF
  refine j_aload_n EE 0 dX10_ofRule_0 rfl rfl ?_
  refine j_get (T := TX10) EE iw_X10_ofRule_X10 0 rfl rfl 0 (by decide) lk_X10_ofRule_7 rfl dX10_ofRule_1 ?_
  refine j_iconst (v := nI 5) EE dX10_ofRule_4 (by decide) ?_
  refine j_iconst (v := nI 5) EE dX10_ofRule_5 (by decide) ?_
  refine j_iload_n EE 1 dX10_ofRule_6 rfl rfl ?_
  refine j_imul EE dX10_ofRule_7 ?_
  refine j_topE (pk_mul 5 r) ?_
  refine j_iadd EE dX10_ofRule_8 ?_
  refine j_topE (nI_add 5 (5 * r)) ?_
  refine j_iload_n EE 2 dX10_ofRule_9 rfl rfl ?_
  refine j_iadd EE dX10_ofRule_10 ?_
  refine j_topE (nI_add (5 + (5 * r)) w) ?_
  refine j_iald EE 1 0 rfl rfl (vp_in_nI (n := (5 + (5 * r)) + w) (by omega) (by decide)) dX10_ofRule_11 ?_
  refine j_topE (congrArg (sA F) (nI_clamp (n := (5 + (5 * r)) + w) (by omega))) ?_
  refine j_topE (y := nI (F ((5 + (5 * r)) + w)) - nI 1) (sA_w (by omega)) ?_
  exact j_iret EE FF dX10_ofRule_12 () trivial (by first | rfl | simp_all) rfl

theorem iw_X10_ruleCount_X10 : ∀ w ∈ wsX100, w ∈ wsX10_ruleCount := fun _ h => List.mem_cons_of_mem _ (List.mem_append_right _ h)
theorem lk_X10_ruleCount_7 : Cond.fieldLink RX10 7 (TX10 0).1 (TX10 0).2.1 (TX10 0).2.2.1 ∈ wsX10_ruleCount := List.mem_of_getElem? (i := 1) rfl
set_option maxHeartbeats 4000000 in
set_option maxRecDepth 100000 in
theorem c_X10_ruleCount (h F Q ft B Bt a1 a2 a3 a4 a5 : Nat → Nat) (fr : Nat → Int32) (W M : Nat → Int64) (km le sp ro : Nat) : Ct l yX10_ruleCount wsX10_ruleCount (rmD (0)) D [(cI, .int), (cC, .char), (cJ, .long), (cG, .object "PushdownGameSolver$Game")] [.ref ((h 0))] [((h 0), .inr (6, [.ref ((h 1)), .ref ((h 2)), .ref ((h 3)), .int (nI km), .ref ((h 4)), .int (nI le), .int (nI sp), .ref ((h 5)), .ref ((h 6)), .int (nI ro), .ref ((h 7)), .ref ((h 8)), .ref ((h 9)), .ref ((h 10)), .ref ((h 11)), .ref ((h 12)), .ref ((h 13))])), ((h 1), .inl (cI, 99, .inl (sA F))), ((h 2), .inl (cI, 99, .inl fr)), ((h 3), .inl (cI, 594, .inl (kA Q))), ((h 4), .inl (cI, 200, .inl (fun zz => nI (ft zz)))), ((h 5), .inl (cI, 12, .inl (fun zz => nI (B zz)))), ((h 6), .inl (cI, 12, .inl (fun zz => nI (Bt zz)))), ((h 7), .inl (cJ, 16, .inr (.inl W))), ((h 8), .inl (cJ, 16, .inr (.inl M))), ((h 9), .inl (cI, 9, .inl (fun zz => nI (a1 zz)))), ((h 10), .inl (cI, 9, .inl (fun zz => nI (a2 zz)))), ((h 11), .inl (cI, 198, .inl (fun zz => nI (a3 zz)))), ((h 12), .inl (cI, 9, .inl (fun zz => nI (a4 zz)))), ((h 13), .inl (cI, 9, .inl (fA a5)))] (S := Unit) (fun _ => True) (fun _ => some (.int (nI (F 4)))) (fun _ => [((h 0), .inr (6, [.ref ((h 1)), .ref ((h 2)), .ref ((h 3)), .int (nI km), .ref ((h 4)), .int (nI le), .int (nI sp), .ref ((h 5)), .ref ((h 6)), .int (nI ro), .ref ((h 7)), .ref ((h 8)), .ref ((h 9)), .ref ((h 10)), .ref ((h 11)), .ref ((h 12)), .ref ((h 13))])), ((h 1), .inl (cI, 99, .inl (sA F))), ((h 2), .inl (cI, 99, .inl fr)), ((h 3), .inl (cI, 594, .inl (kA Q))), ((h 4), .inl (cI, 200, .inl (fun zz => nI (ft zz)))), ((h 5), .inl (cI, 12, .inl (fun zz => nI (B zz)))), ((h 6), .inl (cI, 12, .inl (fun zz => nI (Bt zz)))), ((h 7), .inl (cJ, 16, .inr (.inl W))), ((h 8), .inl (cJ, 16, .inr (.inl M))), ((h 9), .inl (cI, 9, .inl (fun zz => nI (a1 zz)))), ((h 10), .inl (cI, 9, .inl (fun zz => nI (a2 zz)))), ((h 11), .inl (cI, 198, .inl (fun zz => nI (a3 zz)))), ((h 12), .inl (cI, 9, .inl (fun zz => nI (a4 zz)))), ((h 13), .inl (cI, 9, .inl (fA a5)))]) := by
  refine Ct.of (lv := [(0, .ref ((h 0)))]) (by decide) rfl (Nat.le_of_ble_eq_true rfl) rfl ?_
  intro ε hL EE FF
  refine j_aload_n EE 0 dX10_ruleCount_0 rfl rfl ?_
  refine j_get (T := TX10) EE iw_X10_ruleCount_X10 0 rfl rfl 0 (by decide) lk_X10_ruleCount_7 rfl dX10_ruleCount_1 ?_
  refine j_iconst (v := nI 4) EE dX10_ruleCount_4 (by decide) ?_
  refine j_iald EE 1 0 rfl rfl (vp_in_nI (n := 4) (by omega) (by decide)) dX10_ruleCount_5 ?_
  refine j_topE (congrArg (sA F) (nI_clamp (n := 4) (by omega))) ?_
  refine j_topE (y := nI (F 4)) (sA_n (by omega)) ?_
  exact j_iret EE FF dX10_ruleCount_6 () trivial (by first | rfl | simp_all) rfl

theorem iw_X10_presentState_X10 : ∀ w ∈ wsX100, w ∈ wsX10_presentState := fun _ h => List.mem_cons_of_mem _ (List.mem_append_right _ h)
theorem lk_X10_presentState_7 : Cond.fieldLink RX10 7 (TX10 0).1 (TX10 0).2.1 (TX10 0).2.2.1 ∈ wsX10_presentState := List.mem_of_getElem? (i := 1) rfl
set_option maxHeartbeats 4000000 in
set_option maxRecDepth 100000 in
theorem c_X10_presentState (h F Q ft B Bt a1 a2 a3 a4 a5 : Nat → Nat) (fr : Nat → Int32) (W M : Nat → Int64) (km le sp ro : Nat) : Ct l yX10_presentState wsX10_presentState (rmD (0)) D [(cI, .int), (cC, .char), (cJ, .long), (cG, .object "PushdownGameSolver$Game")] [.ref ((h 0))] [((h 0), .inr (6, [.ref ((h 1)), .ref ((h 2)), .ref ((h 3)), .int (nI km), .ref ((h 4)), .int (nI le), .int (nI sp), .ref ((h 5)), .ref ((h 6)), .int (nI ro), .ref ((h 7)), .ref ((h 8)), .ref ((h 9)), .ref ((h 10)), .ref ((h 11)), .ref ((h 12)), .ref ((h 13))])), ((h 1), .inl (cI, 99, .inl (sA F))), ((h 2), .inl (cI, 99, .inl fr)), ((h 3), .inl (cI, 594, .inl (kA Q))), ((h 4), .inl (cI, 200, .inl (fun zz => nI (ft zz)))), ((h 5), .inl (cI, 12, .inl (fun zz => nI (B zz)))), ((h 6), .inl (cI, 12, .inl (fun zz => nI (Bt zz)))), ((h 7), .inl (cJ, 16, .inr (.inl W))), ((h 8), .inl (cJ, 16, .inr (.inl M))), ((h 9), .inl (cI, 9, .inl (fun zz => nI (a1 zz)))), ((h 10), .inl (cI, 9, .inl (fun zz => nI (a2 zz)))), ((h 11), .inl (cI, 198, .inl (fun zz => nI (a3 zz)))), ((h 12), .inl (cI, 9, .inl (fun zz => nI (a4 zz)))), ((h 13), .inl (cI, 9, .inl (fA a5)))] (S := Unit) (fun _ => True) (fun _ => some (.int (nI (F 85)))) (fun _ => [((h 0), .inr (6, [.ref ((h 1)), .ref ((h 2)), .ref ((h 3)), .int (nI km), .ref ((h 4)), .int (nI le), .int (nI sp), .ref ((h 5)), .ref ((h 6)), .int (nI ro), .ref ((h 7)), .ref ((h 8)), .ref ((h 9)), .ref ((h 10)), .ref ((h 11)), .ref ((h 12)), .ref ((h 13))])), ((h 1), .inl (cI, 99, .inl (sA F))), ((h 2), .inl (cI, 99, .inl fr)), ((h 3), .inl (cI, 594, .inl (kA Q))), ((h 4), .inl (cI, 200, .inl (fun zz => nI (ft zz)))), ((h 5), .inl (cI, 12, .inl (fun zz => nI (B zz)))), ((h 6), .inl (cI, 12, .inl (fun zz => nI (Bt zz)))), ((h 7), .inl (cJ, 16, .inr (.inl W))), ((h 8), .inl (cJ, 16, .inr (.inl M))), ((h 9), .inl (cI, 9, .inl (fun zz => nI (a1 zz)))), ((h 10), .inl (cI, 9, .inl (fun zz => nI (a2 zz)))), ((h 11), .inl (cI, 198, .inl (fun zz => nI (a3 zz)))), ((h 12), .inl (cI, 9, .inl (fun zz => nI (a4 zz)))), ((h 13), .inl (cI, 9, .inl (fA a5)))]) := by
  refine Ct.of (lv := [(0, .ref ((h 0)))]) (by decide) rfl (Nat.le_of_ble_eq_true rfl) rfl ?_
  intro ε hL EE FF
  refine j_aload_n EE 0 dX10_presentState_0 rfl rfl ?_
  refine j_get (T := TX10) EE iw_X10_presentState_X10 0 rfl rfl 0 (by decide) lk_X10_presentState_7 rfl dX10_presentState_1 ?_
  refine j_bipush (v := nI 85) EE dX10_presentState_4 (by decide) ?_
  refine j_iald EE 1 0 rfl rfl (vp_in_nI (n := 85) (by omega) (by decide)) dX10_presentState_6 ?_
  refine j_topE (congrArg (sA F) (nI_clamp (n := 85) (by omega))) ?_
  refine j_topE (y := nI (F 85)) (sA_n (by omega)) ?_
  exact j_iret EE FF dX10_presentState_7 () trivial (by first | rfl | simp_all) rfl

theorem iw_X10_stackSize_X10 : ∀ w ∈ wsX100, w ∈ wsX10_stackSize := fun _ h => List.mem_cons_of_mem _ (List.mem_append_right _ h)
theorem lk_X10_stackSize_7 : Cond.fieldLink RX10 7 (TX10 0).1 (TX10 0).2.1 (TX10 0).2.2.1 ∈ wsX10_stackSize := List.mem_of_getElem? (i := 1) rfl
set_option maxHeartbeats 4000000 in
set_option maxRecDepth 100000 in
theorem c_X10_stackSize (h F Q ft B Bt a1 a2 a3 a4 a5 : Nat → Nat) (fr : Nat → Int32) (W M : Nat → Int64) (km le sp ro : Nat) : Ct l yX10_stackSize wsX10_stackSize (rmD (0)) D [(cI, .int), (cC, .char), (cJ, .long), (cG, .object "PushdownGameSolver$Game")] [.ref ((h 0))] [((h 0), .inr (6, [.ref ((h 1)), .ref ((h 2)), .ref ((h 3)), .int (nI km), .ref ((h 4)), .int (nI le), .int (nI sp), .ref ((h 5)), .ref ((h 6)), .int (nI ro), .ref ((h 7)), .ref ((h 8)), .ref ((h 9)), .ref ((h 10)), .ref ((h 11)), .ref ((h 12)), .ref ((h 13))])), ((h 1), .inl (cI, 99, .inl (sA F))), ((h 2), .inl (cI, 99, .inl fr)), ((h 3), .inl (cI, 594, .inl (kA Q))), ((h 4), .inl (cI, 200, .inl (fun zz => nI (ft zz)))), ((h 5), .inl (cI, 12, .inl (fun zz => nI (B zz)))), ((h 6), .inl (cI, 12, .inl (fun zz => nI (Bt zz)))), ((h 7), .inl (cJ, 16, .inr (.inl W))), ((h 8), .inl (cJ, 16, .inr (.inl M))), ((h 9), .inl (cI, 9, .inl (fun zz => nI (a1 zz)))), ((h 10), .inl (cI, 9, .inl (fun zz => nI (a2 zz)))), ((h 11), .inl (cI, 198, .inl (fun zz => nI (a3 zz)))), ((h 12), .inl (cI, 9, .inl (fun zz => nI (a4 zz)))), ((h 13), .inl (cI, 9, .inl (fA a5)))] (S := Unit) (fun _ => True) (fun _ => some (.int (nI (F 86)))) (fun _ => [((h 0), .inr (6, [.ref ((h 1)), .ref ((h 2)), .ref ((h 3)), .int (nI km), .ref ((h 4)), .int (nI le), .int (nI sp), .ref ((h 5)), .ref ((h 6)), .int (nI ro), .ref ((h 7)), .ref ((h 8)), .ref ((h 9)), .ref ((h 10)), .ref ((h 11)), .ref ((h 12)), .ref ((h 13))])), ((h 1), .inl (cI, 99, .inl (sA F))), ((h 2), .inl (cI, 99, .inl fr)), ((h 3), .inl (cI, 594, .inl (kA Q))), ((h 4), .inl (cI, 200, .inl (fun zz => nI (ft zz)))), ((h 5), .inl (cI, 12, .inl (fun zz => nI (B zz)))), ((h 6), .inl (cI, 12, .inl (fun zz => nI (Bt zz)))), ((h 7), .inl (cJ, 16, .inr (.inl W))), ((h 8), .inl (cJ, 16, .inr (.inl M))), ((h 9), .inl (cI, 9, .inl (fun zz => nI (a1 zz)))), ((h 10), .inl (cI, 9, .inl (fun zz => nI (a2 zz)))), ((h 11), .inl (cI, 198, .inl (fun zz => nI (a3 zz)))), ((h 12), .inl (cI, 9, .inl (fun zz => nI (a4 zz)))), ((h 13), .inl (cI, 9, .inl (fA a5)))]) := by
  refine Ct.of (lv := [(0, .ref ((h 0)))]) (by decide) rfl (Nat.le_of_ble_eq_true rfl) rfl ?_
  intro ε hL EE FF
  refine j_aload_n EE 0 dX10_stackSize_0 rfl rfl ?_
  refine j_get (T := TX10) EE iw_X10_stackSize_X10 0 rfl rfl 0 (by decide) lk_X10_stackSize_7 rfl dX10_stackSize_1 ?_
  refine j_bipush (v := nI 86) EE dX10_stackSize_4 (by decide) ?_
  refine j_iald EE 1 0 rfl rfl (vp_in_nI (n := 86) (by omega) (by decide)) dX10_stackSize_6 ?_
  refine j_topE (congrArg (sA F) (nI_clamp (n := 86) (by omega))) ?_
  refine j_topE (y := nI (F 86)) (sA_n (by omega)) ?_
  exact j_iret EE FF dX10_stackSize_7 () trivial (by first | rfl | simp_all) rfl

end G_40_mod1
