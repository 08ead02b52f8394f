section G_42_mod3
variable {l : Launch} {D : va_G} {cI cC cJ cG : ClassId}

theorem b_sh1 : ∀ w : Nat, w < 16 → nI 1 <<< (nI w &&& 31) = nI (1 <<< w) := by decide +kernel
theorem b_nots : ∀ u : Nat, u < 16 → ((nI 1 <<< (nI u &&& 31)) ^^^ (-1 : Int32)) = nI (4294967295 ^^^ (1 <<< u)) := by decide +kernel
theorem b_sub : ∀ u : Nat, u < 16 → ∀ v : Nat, v < 16 → nI v &&& (nI u ^^^ (-1)) = nI (v &&& (15 ^^^ u)) := by decide +kernel
theorem sh_lt : ∀ w : Nat, w < 16 → 1 <<< w < 65536 := by decide +kernel
theorem or16 : ∀ u : Nat, u < 16 → ∀ v : Nat, v < 16 → u ||| v < 16 := by decide +kernel
def unI (x y u s : Nat) : Nat → Nat
  | 0 => s
  | v + 1 => if bt x u = 1 ∧ bt y v = 1 then unI x y u s v ||| (1 <<< (u ||| v)) else unI x y u s v
def unO (x y : Nat) : Nat → Nat
  | 0 => 0
  | u + 1 => unI x y u (unO x y u) 16
theorem unI_lt {x y u s : Nat} (hu : u < 16) (hs : s < 65536) : ∀ v, v ≤ 16 → unI x y u s v < 65536
  | 0, _ => hs
  | v + 1, hv => by
    unfold unI
    split
    · exact or_lt (unI_lt hu hs v (by omega)) (sh_lt _ (or16 u hu v (by omega)))
    · exact unI_lt hu hs v (by omega)
theorem unO_lt (x y : Nat) : ∀ u, u ≤ 16 → unO x y u < 65536
  | 0, _ => Nat.le_of_ble_eq_true rfl
  | u + 1, hu => unI_lt (by omega) (unO_lt x y u (by omega)) 16 (Nat.le_refl _)
def miI (x u s : Nat) : Nat → Nat
  | 0 => s
  | v + 1 => if v ≠ u ∧ bt x u = 1 ∧ bt x v = 1 ∧ v &&& (15 ^^^ u) = 0 then miI x u s v &&& (4294967295 ^^^ (1 <<< u)) else miI x u s v
def miO (x : Nat) : Nat → Nat
  | 0 => x
  | u + 1 => miI x u (miO x u) 16
theorem miI_lt {x u s : Nat} (hs : s < 65536) : ∀ v, miI x u s v < 65536
  | 0 => hs
  | v + 1 => by
    unfold miI
    split
    · exact and_lt (miI_lt hs v)
    · exact miI_lt hs v
theorem miO_lt {x : Nat} (hx : x < 65536) : ∀ u, miO x u < 65536
  | 0 => hx
  | u + 1 => miI_lt (miO_lt hx u) 16
def acI (x b p s : Nat) : Nat → Nat
  | 0 => s
  | u + 1 => if bt x u = 1 ∧ u &&& (15 ^^^ b) = 0 then acI x b p s u ||| (1 <<< p) else acI x b p s u
def acO (t : Nat) (B : Nat → Nat) (y b : Nat) : Nat → Nat
  | 0 => t
  | p + 1 => acI (B (3 * p + y)) b p (acO t B y b p) 16
theorem sh4 : ∀ p : Nat, p < 4 → 1 <<< p < 16 := by decide +kernel
theorem acI_lt {x b p s : Nat} (hp : p < 4) (hs : s < 16) : ∀ u, acI x b p s u < 16
  | 0 => hs
  | u + 1 => by
    unfold acI
    split
    · exact Nat.or_lt_two_pow (n := 4) (acI_lt hp hs u) (sh4 p hp)
    · exact acI_lt hp hs u
theorem acO_lt {t : Nat} {B : Nat → Nat} {y b : Nat} (ht : t < 16) : ∀ p, p ≤ 4 → acO t B y b p < 16
  | 0, _ => ht
  | p + 1, hp => acI_lt (by omega) (acO_lt ht p (by omega)) 16
def acM (F B : Nat → Nat) : Nat → Nat
  | 0 => F 3
  | k + 1 => acO (F 3) B (F (87 + k)) (acM F B k) (F 0)
theorem acM_lt {F B : Nat → Nat} (ht : F 3 < 16) (hP : F 0 ≤ 4) : ∀ k, acM F B k < 16
  | 0 => ht
  | k + 1 => acO_lt ht _ hP
theorem bz_1 {m i : Nat} (h : bt m i ≠ 0) : bt m i = 1 := by have := bt_lt m i; omega

theorem hd_X10_has : yX10_has.cls ≠ "java/lang/invoke/MethodHandle" ∧ yX10_has.cls ≠ "java/lang/invoke/VarHandle" ∧ (parseMethodDescriptor yX10_has.desc).map (fun d => d.parameters.length) = some 2 := by decide +kernel
set_option maxHeartbeats 4000000 in
set_option maxRecDepth 100000 in
theorem c_X10_unions (x y : Nat) (hx : x < 65536) (hy : y < 65536) : Ct l yX10_unions wsX10_unions (rmD (1)) D [(cI, .int), (cC, .char), (cJ, .long), (cG, .object "PushdownGameSolver$Game")] [.int (nI x), .int (nI y)] [] (S := Unit) (fun _ => True) (fun _ => some (.int (nI (unO x y 16)))) (fun _ => []) := by
  refine Ct.of (lv := [(0, .int (nI x)), (1, .int (nI y))]) (by decide) rfl (Nat.le_of_ble_eq_true rfl) rfl ?_
  intro ε hL EE FF
  have Lp_4 : ∀ (nf : Nat), ∀ (u : Nat), 16 - u < nf → (u ≤ 16) → J l (rmD (1)) D ε [] 4 [(3, .int (nI u)), (2, .int (nI (unO x y u))), (0, .int (nI x)), (1, .int (nI y))] [] := by
    intro nf
    induction nf with
    | zero => intro u hm; exact absurd hm (Nat.not_lt_zero _)
    | succ nf ihp_4 =>
      intro u hm4 hu
      have Lp_13 : ∀ (nf : Nat), ∀ (v : Nat), 16 - v < nf → (v ≤ 16) → (u < 16) → J l (rmD (1)) D ε [] 13 [(4, .int (nI v)), (3, .int (nI u)), (2, .int (nI (unI x y u (unO x y u) v))), (0, .int (nI x)), (1, .int (nI y))] [] := by
        intro nf
        induction nf with
        | zero => intro v hm; exact absurd hm (Nat.not_lt_zero _)
        | succ nf ihp_13 =>
          intro v hm13 hv hul
          refine j_iload EE 0 dX10_unions_13 rfl ?_
          refine j_bipush (v := nI 16) EE dX10_unions_15 (by decide) ?_
          refine j_icmp_ge EE 56 dX10_unions_17 (by decide) (fun c17 => ?_) (fun c17 => ?_)
          · skip
            have n17 : 16 ≤ v := (nI_leI (a := 16) (b := v) (by omega) (by omega)).mp c17
            refine j_iinc (v := nI (u + 1)) EE 1 [(3, .int (nI (u + 1))), (4, _), (2, _), (0, _), (1, _)] dX10_unions_56 rfl (nI_1 u) (Nat.lt_of_lt_of_eq (by decide) hL.symm) rfl ?_
            refine j_goto EE 4 dX10_unions_59 (by decide) ?_
            refine j_lv [0, 2, 3, 4] rfl ?_
            rw [show v = 16 by omega, show unI x y u (unO x y u) 16 = unO x y (u + 1) from rfl]
            exact ihp_4 (u + 1) (by omega) (by omega)
          · skip
            have n17 : ¬ 16 ≤ v := fun hq => c17 ((nI_leI (a := 16) (b := v) (by omega) (by omega)).mpr hq)
            refine j_iload_n EE 2 dX10_unions_20 rfl rfl ?_
            refine j_iload_n EE 3 dX10_unions_21 rfl rfl ?_
            refine j_iload_n EE 1 dX10_unions_22 rfl rfl ?_
            refine j_S EE (c_X10_has x u (by omega) (by omega)) gX10_unions_X10_has hd_X10_has rfl ⟨rfl, rfl⟩ ⟨by decide, by decide⟩ rfl [] rfl (fun _ => rfl) rfl (Nat.le_of_ble_eq_true rfl) dX10_unions_23 (fun u_23 h_23 => ?_) rfl
            show J l _ D ε _ _ _ (.int (nI (bt x u)) :: _)
            refine j_if_eq EE 47 dX10_unions_26 (by decide) (fun c26 => ?_) (fun c26 => ?_)
            · skip
              have n26 : (bt x u) = 0 := (nI_eq (a := (bt x u)) (b := 0) (by have := bt_lt x u; omega) (by have := bt_lt x u; omega)).mp c26
              refine j_iconst (v := nI 0) EE dX10_unions_47 (by decide) ?_
              refine j_ior EE dX10_unions_48 ?_
              refine j_topE (nI_or (unI x y u (unO x y u) v) 0) ?_
              refine j_istore_n EE [(2, _), (4, _), (3, _), (0, _), (1, _)] dX10_unions_49 rfl (Nat.lt_of_lt_of_eq (by decide) hL.symm) rfl ?_
              refine j_iinc (v := nI (v + 1)) EE 1 [(4, .int (nI (v + 1))), (2, _), (3, _), (0, _), (1, _)] dX10_unions_50 rfl (nI_1 v) (Nat.lt_of_lt_of_eq (by decide) hL.symm) rfl ?_
              refine j_goto EE 13 dX10_unions_53 (by decide) ?_
              refine j_lv [0, 2, 1, 3, 4] rfl ?_
              first | rw [show unI x y u (unO x y u) v ||| (1 <<< (u ||| v)) = unI x y u (unO x y u) (v + 1) by conv => rhs; unfold unI; rw [if_pos ⟨bz_1 n26, bz_1 n35⟩]] | rw [show unI x y u (unO x y u) v ||| 0 = unI x y u (unO x y u) (v + 1) by rw [Nat.or_zero]; conv => rhs; unfold unI; rw [if_neg (fun z => by have := z.2; omega)]] | rw [show unI x y u (unO x y u) v ||| 0 = unI x y u (unO x y u) (v + 1) by rw [Nat.or_zero]; conv => rhs; unfold unI; rw [if_neg (fun z => by have := z.1; omega)]]
              exact ihp_13 (v + 1) (by omega) (by omega) hul
            · skip
              have n26 : (bt x u) ≠ 0 := fun hq => c26 ((nI_eq (a := (bt x u)) (b := 0) (by have := bt_lt x u; omega) (by have := bt_lt x u; omega)).mpr hq)
              refine j_iload_n EE 4 dX10_unions_29 rfl rfl ?_
              refine j_iload EE 0 dX10_unions_30 rfl ?_
              refine j_S EE (c_X10_has y v (by omega) (by omega)) gX10_unions_X10_has hd_X10_has rfl ⟨rfl, rfl⟩ ⟨by decide, by decide⟩ rfl [] rfl (fun _ => rfl) rfl (Nat.le_of_ble_eq_true rfl) dX10_unions_32 (fun u_32 h_32 => ?_) rfl
              show J l _ D ε _ _ _ (.int (nI (bt y v)) :: _)
              refine j_if_eq EE 47 dX10_unions_35 (by decide) (fun c35 => ?_) (fun c35 => ?_)
              · skip
                have n35 : (bt y v) = 0 := (nI_eq (a := (bt y v)) (b := 0) (by have := bt_lt y v; omega) (by have := bt_lt y v; omega)).mp c35
                refine j_iconst (v := nI 0) EE dX10_unions_47 (by decide) ?_
                refine j_ior EE dX10_unions_48 ?_
                refine j_topE (nI_or (unI x y u (unO x y u) v) 0) ?_
                refine j_istore_n EE [(2, _), (4, _), (3, _), (0, _), (1, _)] dX10_unions_49 rfl (Nat.lt_of_lt_of_eq (by decide) hL.symm) rfl ?_
                refine j_iinc (v := nI (v + 1)) EE 1 [(4, .int (nI (v + 1))), (2, _), (3, _), (0, _), (1, _)] dX10_unions_50 rfl (nI_1 v) (Nat.lt_of_lt_of_eq (by decide) hL.symm) rfl ?_
                refine j_goto EE 13 dX10_unions_53 (by decide) ?_
                refine j_lv [0, 2, 1, 3, 4] rfl ?_
                first | rw [show unI x y u (unO x y u) v ||| (1 <<< (u ||| v)) = unI x y u (unO x y u) (v + 1) by conv => rhs; unfold unI; rw [if_pos ⟨bz_1 n26, bz_1 n35⟩]] | rw [show unI x y u (unO x y u) v ||| 0 = unI x y u (unO x y u) (v + 1) by rw [Nat.or_zero]; conv => rhs; unfold unI; rw [if_neg (fun z => by have := z.2; omega)]] | rw [show unI x y u (unO x y u) v ||| 0 = unI x y u (unO x y u) (v + 1) by rw [Nat.or_zero]; conv => rhs; unfold unI; rw [if_neg (fun z => by have := z.1; omega)]]
                exact ihp_13 (v + 1) (by omega) (by omega) hul
              · skip
                have n35 : (bt y v) ≠ 0 := fun hq => c35 ((nI_eq (a := (bt y v)) (b := 0) (by have := bt_lt y v; omega) (by have := bt_lt y v; omega)).mpr hq)
                refine j_iconst (v := nI 1) EE dX10_unions_38 (by decide) ?_
                refine j_iload_n EE 1 dX10_unions_39 rfl rfl ?_
                refine j_iload EE 0 dX10_unions_40 rfl ?_
                refine j_ior EE dX10_unions_42 ?_
                refine j_topE (nI_or u v) ?_
                refine j_ishl EE dX10_unions_43 ?_
                refine j_topE (y := nI (1 <<< (u ||| v))) (b_sh1 _ (or16 u (by omega) v (by omega))) ?_
                refine j_goto EE 48 dX10_unions_44 (by decide) ?_
                refine j_ior EE dX10_unions_48 ?_
                refine j_topE (nI_or (unI x y u (unO x y u) v) (1 <<< (u ||| v))) ?_
                refine j_istore_n EE [(2, _), (4, _), (3, _), (0, _), (1, _)] dX10_unions_49 rfl (Nat.lt_of_lt_of_eq (by decide) hL.symm) rfl ?_
                refine j_iinc (v := nI (v + 1)) EE 1 [(4, .int (nI (v + 1))), (2, _), (3, _), (0, _), (1, _)] dX10_unions_50 rfl (nI_1 v) (Nat.lt_of_lt_of_eq (by decide) hL.symm) rfl ?_
                refine j_goto EE 13 dX10_unions_53 (by decide) ?_
                refine j_lv [0, 2, 1, 3, 4] rfl ?_
                first | rw [show unI x y u (unO x y u) v ||| (1 <<< (u ||| v)) = unI x y u (unO x y u) (v + 1) by conv => rhs; unfold unI; rw [if_pos ⟨bz_1 n26, bz_1 n35⟩]] | rw [show unI x y u (unO x y u) v ||| 0 = unI x y u (unO x y u) (v + 1) by rw [Nat.or_zero]; conv => rhs; unfold unI; rw [if_neg (fun z => by have := z.2; omega)]] | rw [show unI x y u (unO x y u) v ||| 0 = unI x y u (unO x y u) (v + 1) by rw [Nat.or_zero]; conv => rhs; unfold unI; rw [if_neg (fun z => by have := z.1; omega)]]
                exact ihp_13 (v + 1) (by omega) (by omega) hul
      refine j_iload_n EE 0 dX10_unions_4 rfl rfl ?_
      refine j_bipush (v := nI 16) EE dX10_unions_5 (by decide) ?_
      refine j_icmp_ge EE 62 dX10_unions_7 (by decide) (fun c7 => ?_) (fun c7 => ?_)
      · skip
        have n7 : 16 ≤ u := (nI_leI (a := 16) (b := u) (by omega) (by omega)).mp c7
        refine j_iload_n EE 1 dX10_unions_62 rfl rfl ?_
        exact j_iret EE FF dX10_unions_63 () trivial (by rw [show 16 = u by omega]) rfl
      · skip
        have n7 : ¬ 16 ≤ u := fun hq => c7 ((nI_leI (a := 16) (b := u) (by omega) (by omega)).mpr hq)
        refine j_iconst (v := nI 0) EE dX10_unions_10 (by decide) ?_
        refine j_istore EE [(4, _), (3, _), (2, _), (0, _), (1, _)] dX10_unions_11 (Nat.lt_of_lt_of_eq (by decide) hL.symm) rfl ?_
        exact Lp_13 _ 0 (Nat.lt_succ_self _) (by omega) (by omega)
  refine j_iconst (v := nI 0) EE dX10_unions_0 (by decide) ?_
  refine j_istore_n EE [(2, _), (0, _), (1, _)] dX10_unions_1 rfl (Nat.lt_of_lt_of_eq (by decide) hL.symm) rfl ?_
  refine j_iconst (v := nI 0) EE dX10_unions_2 (by decide) ?_
  refine j_istore_n EE [(3, _), (2, _), (0, _), (1, _)] dX10_unions_3 rfl (Nat.lt_of_lt_of_eq (by decide) hL.symm) rfl ?_
  exact Lp_4 _ 0 (Nat.lt_succ_self _) (by omega)

set_option maxHeartbeats 4000000 in
set_option maxRecDepth 100000 in
theorem c_X10_minimal (x : Nat) (hx : x < 65536) : Ct l yX10_minimal wsX10_minimal (rmD (1)) D [(cI, .int), (cC, .char), (cJ, .long), (cG, .object "PushdownGameSolver$Game")] [.int (nI x)] [] (S := Unit) (fun _ => True) (fun _ => some (.int (nI (miO x 16)))) (fun _ => []) := by
  refine Ct.of (lv := [(0, .int (nI x))]) (by decide) rfl (Nat.le_of_ble_eq_true rfl) rfl ?_
  intro ε hL EE FF
  have Lp_4 : ∀ (nf : Nat), ∀ (u : Nat), 16 - u < nf → (u ≤ 16) → J l (rmD (1)) D ε [] 4 [(2, .int (nI u)), (1, .int (nI (miO x u))), (0, .int (nI x))] [] := by
    intro nf
    induction nf with
    | zero => intro u hm; exact absurd hm (Nat.not_lt_zero _)
    | succ nf ihp_4 =>
      intro u hm4 hu
      have Lp_12 : ∀ (nf : Nat), ∀ (v : Nat), 16 - v < nf → (v ≤ 16) → (u < 16) → J l (rmD (1)) D ε [] 12 [(3, .int (nI v)), (2, .int (nI u)), (1, .int (nI (miI x u (miO x u) v))), (0, .int (nI x))] [] := by
        intro nf
        induction nf with
        | zero => intro v hm; exact absurd hm (Nat.not_lt_zero _)
        | succ nf ihp_12 =>
          intro v hm12 hv hul
          refine j_iload_n EE 0 dX10_minimal_12 rfl rfl ?_
          refine j_bipush (v := nI 16) EE dX10_minimal_13 (by decide) ?_
          refine j_icmp_ge EE 61 dX10_minimal_15 (by decide) (fun c15 => ?_) (fun c15 => ?_)
          · skip
            have n15 : 16 ≤ v := (nI_leI (a := 16) (b := v) (by omega) (by omega)).mp c15
            refine j_iinc (v := nI (u + 1)) EE 1 [(2, .int (nI (u + 1))), (3, _), (1, _), (0, _)] dX10_minimal_61 rfl (nI_1 u) (Nat.lt_of_lt_of_eq (by decide) hL.symm) rfl ?_
            refine j_goto EE 4 dX10_minimal_64 (by decide) ?_
            refine j_lv [0, 2, 3] rfl ?_
            rw [show v = 16 by omega, show miI x u (miO x u) 16 = miO x (u + 1) from rfl]
            exact ihp_4 (u + 1) (by omega) (by omega)
          · skip
            have n15 : ¬ 16 ≤ v := fun hq => c15 ((nI_leI (a := 16) (b := v) (by omega) (by omega)).mpr hq)
            refine j_iload_n EE 0 dX10_minimal_18 rfl rfl ?_
            refine j_iload_n EE 1 dX10_minimal_19 rfl rfl ?_
            refine j_icmp_eq EE 55 dX10_minimal_20 (by decide) (fun c20 => ?_) (fun c20 => ?_)
            · skip
              have n20 : v = u := (nI_eq (a := v) (b := u) (by omega) (by omega)).mp c20
              refine j_iinc (v := nI (v + 1)) EE 0 [(3, .int (nI (v + 1))), (2, _), (1, _), (0, _)] dX10_minimal_55 rfl (nI_1 v) (Nat.lt_of_lt_of_eq (by decide) hL.symm) rfl ?_
              refine j_goto EE 12 dX10_minimal_58 (by decide) ?_
              first | rw [show miI x u (miO x u) v &&& (4294967295 ^^^ (1 <<< u)) = miI x u (miO x u) (v + 1) by conv => rhs; unfold miI; rw [if_pos ⟨n20, bz_1 n28, bz_1 n36, n44⟩]] | rw [show miI x u (miO x u) v = miI x u (miO x u) (v + 1) by conv => rhs; unfold miI; rw [if_neg (fun z => n20 z.1)]] | rw [show miI x u (miO x u) v = miI x u (miO x u) (v + 1) by conv => rhs; unfold miI; rw [if_neg (fun z => absurd z.1 (by omega))]] | rw [show miI x u (miO x u) v = miI x u (miO x u) (v + 1) by conv => rhs; unfold miI; rw [if_neg (fun z => absurd z.2.1 (by omega))]] | rw [show miI x u (miO x u) v = miI x u (miO x u) (v + 1) by conv => rhs; unfold miI; rw [if_neg (fun z => absurd z.2.2.1 (by omega))]] | rw [show miI x u (miO x u) v = miI x u (miO x u) (v + 1) by conv => rhs; unfold miI; rw [if_neg (fun z => n44 z.2.2.2)]]
              exact ihp_12 (v + 1) (by omega) (by omega) hul
            · skip
              have n20 : v ≠ u := fun hq => c20 ((nI_eq (a := v) (b := u) (by omega) (by omega)).mpr hq)
              refine j_iload_n EE 3 dX10_minimal_23 rfl rfl ?_
              refine j_iload_n EE 1 dX10_minimal_24 rfl rfl ?_
              refine j_S EE (c_X10_has x u (by omega) (by omega)) gX10_minimal_X10_has hd_X10_has rfl ⟨rfl, rfl⟩ ⟨by decide, by decide⟩ rfl [] rfl (fun _ => rfl) rfl (Nat.le_of_ble_eq_true rfl) dX10_minimal_25 (fun u_25 h_25 => ?_) rfl
              show J l _ D ε _ _ _ (.int (nI (bt x u)) :: _)
              refine j_if_eq EE 55 dX10_minimal_28 (by decide) (fun c28 => ?_) (fun c28 => ?_)
              · skip
                have n28 : (bt x u) = 0 := (nI_eq (a := (bt x u)) (b := 0) (by have := bt_lt x u; omega) (by have := bt_lt x u; omega)).mp c28
                refine j_iinc (v := nI (v + 1)) EE 0 [(3, .int (nI (v + 1))), (2, _), (1, _), (0, _)] dX10_minimal_55 rfl (nI_1 v) (Nat.lt_of_lt_of_eq (by decide) hL.symm) rfl ?_
                refine j_goto EE 12 dX10_minimal_58 (by decide) ?_
                first | rw [show miI x u (miO x u) v &&& (4294967295 ^^^ (1 <<< u)) = miI x u (miO x u) (v + 1) by conv => rhs; unfold miI; rw [if_pos ⟨n20, bz_1 n28, bz_1 n36, n44⟩]] | rw [show miI x u (miO x u) v = miI x u (miO x u) (v + 1) by conv => rhs; unfold miI; rw [if_neg (fun z => n20 z.1)]] | rw [show miI x u (miO x u) v = miI x u (miO x u) (v + 1) by conv => rhs; unfold miI; rw [if_neg (fun z => absurd z.1 (by omega))]] | rw [show miI x u (miO x u) v = miI x u (miO x u) (v + 1) by conv => rhs; unfold miI; rw [if_neg (fun z => absurd z.2.1 (by omega))]] | rw [show miI x u (miO x u) v = miI x u (miO x u) (v + 1) by conv => rhs; unfold miI; rw [if_neg (fun z => absurd z.2.2.1 (by omega))]] | rw [show miI x u (miO x u) v = miI x u (miO x u) (v + 1) by conv => rhs; unfold miI; rw [if_neg (fun z => n44 z.2.2.2)]]
                exact ihp_12 (v + 1) (by omega) (by omega) hul
              · skip
                have n28 : (bt x u) ≠ 0 := fun hq => c28 ((nI_eq (a := (bt x u)) (b := 0) (by have := bt_lt x u; omega) (by have := bt_lt x u; omega)).mpr hq)
                refine j_iload_n EE 3 dX10_minimal_31 rfl rfl ?_
                refine j_iload_n EE 0 dX10_minimal_32 rfl rfl ?_
                refine j_S EE (c_X10_has x v (by omega) (by omega)) gX10_minimal_X10_has hd_X10_has rfl ⟨rfl, rfl⟩ ⟨by decide, by decide⟩ rfl [] rfl (fun _ => rfl) rfl (Nat.le_of_ble_eq_true rfl) dX10_minimal_33 (fun u_33 h_33 => ?_) rfl
                show J l _ D ε _ _ _ (.int (nI (bt x v)) :: _)
                refine j_if_eq EE 55 dX10_minimal_36 (by decide) (fun c36 => ?_) (fun c36 => ?_)
                · skip
                  have n36 : (bt x v) = 0 := (nI_eq (a := (bt x v)) (b := 0) (by have := bt_lt x v; omega) (by have := bt_lt x v; omega)).mp c36
                  refine j_iinc (v := nI (v + 1)) EE 0 [(3, .int (nI (v + 1))), (2, _), (1, _), (0, _)] dX10_minimal_55 rfl (nI_1 v) (Nat.lt_of_lt_of_eq (by decide) hL.symm) rfl ?_
                  refine j_goto EE 12 dX10_minimal_58 (by decide) ?_
                  first | rw [show miI x u (miO x u) v &&& (4294967295 ^^^ (1 <<< u)) = miI x u (miO x u) (v + 1) by conv => rhs; unfold miI; rw [if_pos ⟨n20, bz_1 n28, bz_1 n36, n44⟩]] | rw [show miI x u (miO x u) v = miI x u (miO x u) (v + 1) by conv => rhs; unfold miI; rw [if_neg (fun z => n20 z.1)]] | rw [show miI x u (miO x u) v = miI x u (miO x u) (v + 1) by conv => rhs; unfold miI; rw [if_neg (fun z => absurd z.1 (by omega))]] | rw [show miI x u (miO x u) v = miI x u (miO x u) (v + 1) by conv => rhs; unfold miI; rw [if_neg (fun z => absurd z.2.1 (by omega))]] | rw [show miI x u (miO x u) v = miI x u (miO x u) (v + 1) by conv => rhs; unfold miI; rw [if_neg (fun z => absurd z.2.2.1 (by omega))]] | rw [show miI x u (miO x u) v = miI x u (miO x u) (v + 1) by conv => rhs; unfold miI; rw [if_neg (fun z => n44 z.2.2.2)]]
                  exact ihp_12 (v + 1) (by omega) (by omega) hul
                · skip
                  have n36 : (bt x v) ≠ 0 := fun hq => c36 ((nI_eq (a := (bt x v)) (b := 0) (by have := bt_lt x v; omega) (by have := bt_lt x v; omega)).mpr hq)
                  refine j_iload_n EE 0 dX10_minimal_39 rfl rfl ?_
                  refine j_iload_n EE 1 dX10_minimal_40 rfl rfl ?_
                  refine j_iconst (v := (-1)) EE dX10_minimal_41 (by decide) ?_
                  refine j_ixor EE dX10_minimal_42 ?_
                  refine j_topE (y := nI u ^^^ (-1)) rfl ?_
                  refine j_iand EE dX10_minimal_43 ?_
                  refine j_topE (y := nI (v &&& (15 ^^^ u))) (b_sub u (by omega) v (by omega)) ?_
                  refine j_if_ne EE 55 dX10_minimal_44 (by decide) (fun c44 => ?_) (fun c44 => ?_)
                  · skip
                    have n44 : (v &&& (15 ^^^ u)) ≠ 0 := fun hq => c44 ((nI_eq (a := (v &&& (15 ^^^ u))) (b := 0) (by have := Nat.and_le_left (n := v) (m := 15 ^^^ u); omega) (by have := Nat.and_le_left (n := v) (m := 15 ^^^ u); omega)).mpr hq)
                    refine j_iinc (v := nI (v + 1)) EE 0 [(3, .int (nI (v + 1))), (2, _), (1, _), (0, _)] dX10_minimal_55 rfl (nI_1 v) (Nat.lt_of_lt_of_eq (by decide) hL.symm) rfl ?_
                    refine j_goto EE 12 dX10_minimal_58 (by decide) ?_
                    first | rw [show miI x u (miO x u) v &&& (4294967295 ^^^ (1 <<< u)) = miI x u (miO x u) (v + 1) by conv => rhs; unfold miI; rw [if_pos ⟨n20, bz_1 n28, bz_1 n36, n44⟩]] | rw [show miI x u (miO x u) v = miI x u (miO x u) (v + 1) by conv => rhs; unfold miI; rw [if_neg (fun z => n20 z.1)]] | rw [show miI x u (miO x u) v = miI x u (miO x u) (v + 1) by conv => rhs; unfold miI; rw [if_neg (fun z => absurd z.1 (by omega))]] | rw [show miI x u (miO x u) v = miI x u (miO x u) (v + 1) by conv => rhs; unfold miI; rw [if_neg (fun z => absurd z.2.1 (by omega))]] | rw [show miI x u (miO x u) v = miI x u (miO x u) (v + 1) by conv => rhs; unfold miI; rw [if_neg (fun z => absurd z.2.2.1 (by omega))]] | rw [show miI x u (miO x u) v = miI x u (miO x u) (v + 1) by conv => rhs; unfold miI; rw [if_neg (fun z => n44 z.2.2.2)]]
                    exact ihp_12 (v + 1) (by omega) (by omega) hul
                  · skip
                    have n44 : (v &&& (15 ^^^ u)) = 0 := (nI_eq (a := (v &&& (15 ^^^ u))) (b := 0) (by have := Nat.and_le_left (n := v) (m := 15 ^^^ u); omega) (by have := Nat.and_le_left (n := v) (m := 15 ^^^ u); omega)).mp c44
                    refine j_iload_n EE 2 dX10_minimal_47 rfl rfl ?_
                    refine j_iconst (v := nI 1) EE dX10_minimal_48 (by decide) ?_
                    refine j_iload_n EE 1 dX10_minimal_49 rfl rfl ?_
                    refine j_ishl EE dX10_minimal_50 ?_
                    refine j_topE (y := nI 1 <<< (nI u &&& 31)) rfl ?_
                    refine j_iconst (v := (-1)) EE dX10_minimal_51 (by decide) ?_
                    refine j_ixor EE dX10_minimal_52 ?_
                    refine j_topE (y := nI (4294967295 ^^^ (1 <<< u))) (b_nots u (by omega)) ?_
                    refine j_iand EE dX10_minimal_53 ?_
                    refine j_topE (nI_and (miI x u (miO x u) v) (4294967295 ^^^ (1 <<< u))) ?_
                    refine j_istore_n EE [(1, _), (3, _), (2, _), (0, _)] dX10_minimal_54 rfl (Nat.lt_of_lt_of_eq (by decide) hL.symm) rfl ?_
                    refine j_iinc (v := nI (v + 1)) EE 1 [(3, .int (nI (v + 1))), (1, _), (2, _), (0, _)] dX10_minimal_55 rfl (nI_1 v) (Nat.lt_of_lt_of_eq (by decide) hL.symm) rfl ?_
                    refine j_goto EE 12 dX10_minimal_58 (by decide) ?_
                    refine j_lv [0, 2, 1, 3] rfl ?_
                    first | rw [show miI x u (miO x u) v &&& (4294967295 ^^^ (1 <<< u)) = miI x u (miO x u) (v + 1) by conv => rhs; unfold miI; rw [if_pos ⟨n20, bz_1 n28, bz_1 n36, n44⟩]] | rw [show miI x u (miO x u) v = miI x u (miO x u) (v + 1) by conv => rhs; unfold miI; rw [if_neg (fun z => n20 z.1)]] | rw [show miI x u (miO x u) v = miI x u (miO x u) (v + 1) by conv => rhs; unfold miI; rw [if_neg (fun z => absurd z.1 (by omega))]] | rw [show miI x u (miO x u) v = miI x u (miO x u) (v + 1) by conv => rhs; unfold miI; rw [if_neg (fun z => absurd z.2.1 (by omega))]] | rw [show miI x u (miO x u) v = miI x u (miO x u) (v + 1) by conv => rhs; unfold miI; rw [if_neg (fun z => absurd z.2.2.1 (by omega))]] | rw [show miI x u (miO x u) v = miI x u (miO x u) (v + 1) by conv => rhs; unfold miI; rw [if_neg (fun z => n44 z.2.2.2)]]
                    exact ihp_12 (v + 1) (by omega) (by omega) hul
      refine j_iload_n EE 0 dX10_minimal_4 rfl rfl ?_
      refine j_bipush (v := nI 16) EE dX10_minimal_5 (by decide) ?_
      refine j_icmp_ge EE 67 dX10_minimal_7 (by decide) (fun c7 => ?_) (fun c7 => ?_)
      · skip
        have n7 : 16 ≤ u := (nI_leI (a := 16) (b := u) (by omega) (by omega)).mp c7
        refine j_iload_n EE 1 dX10_minimal_67 rfl rfl ?_
        exact j_iret EE FF dX10_minimal_68 () trivial (by rw [show 16 = u by omega]) rfl
      · skip
        have n7 : ¬ 16 ≤ u := fun hq => c7 ((nI_leI (a := 16) (b := u) (by omega) (by omega)).mpr hq)
        refine j_iconst (v := nI 0) EE dX10_minimal_10 (by decide) ?_
        refine j_istore_n EE [(3, _), (2, _), (1, _), (0, _)] dX10_minimal_11 rfl (Nat.lt_of_lt_of_eq (by decide) hL.symm) rfl ?_
        exact Lp_12 _ 0 (Nat.lt_succ_self _) (by omega) (by omega)
  refine j_iload_n EE 0 dX10_minimal_0 rfl rfl ?_
  refine j_istore_n EE [(1, _), (0, _)] dX10_minimal_1 rfl (Nat.lt_of_lt_of_eq (by decide) hL.symm) rfl ?_
  refine j_iconst (v := nI 0) EE dX10_minimal_2 (by decide) ?_
  refine j_istore_n EE [(2, _), (1, _), (0, _)] dX10_minimal_3 rfl (Nat.lt_of_lt_of_eq (by decide) hL.symm) rfl ?_
  exact Lp_4 _ 0 (Nat.lt_succ_self _) (by omega)

theorem iw_X10_accepted_X10 : ∀ w ∈ wsX100, w ∈ wsX10_accepted := fun _ h => List.mem_cons_of_mem _ (List.mem_append_right _ h)
theorem lk_X10_accepted_22 : Cond.fieldLink RX10 22 (TX10 7).1 (TX10 7).2.1 (TX10 7).2.2.1 ∈ wsX10_accepted := List.mem_of_getElem? (i := 2) rfl
theorem lk_X10_accepted_7 : Cond.fieldLink RX10 7 (TX10 0).1 (TX10 0).2.1 (TX10 0).2.2.1 ∈ wsX10_accepted := List.mem_of_getElem? (i := 1) rfl
set_option maxHeartbeats 4000000 in
set_option maxRecDepth 100000 in
theorem c_X10_accepted (h F Q ft B Bt a1 a2 a3 a4 a5 : Nat → Nat) (fr : Nat → Int32) (W M : Nat → Int64) (km le sp ro : Nat) (b y : Nat) (hFb : ∀ i, F i < 65536) (hb : b < 16) (hy : y < 3) (ht : F 3 < 16) (hP : F 0 ≤ 4) (hB : ∀ i, B i < 65536) : Ct l yX10_accepted wsX10_accepted (rmD (1)) D [(cI, .int), (cC, .char), (cJ, .long), (cG, .object "PushdownGameSolver$Game")] [.ref ((h 0)), .int (nI b), .int (nI y)] [((h 0), .inr (6, [.ref ((h 1)), .ref ((h 2)), .ref ((h 3)), .int (nI km), .ref ((h 4)), .int (nI le), .int (nI sp), .ref ((h 5)), .ref ((h 6)), .int (nI ro), .ref ((h 7)), .ref ((h 8)), .ref ((h 9)), .ref ((h 10)), .ref ((h 11)), .ref ((h 12)), .ref ((h 13))])), ((h 1), .inl (cI, 99, .inl (sA F))), ((h 2), .inl (cI, 99, .inl fr)), ((h 3), .inl (cI, 594, .inl (kA Q))), ((h 4), .inl (cI, 200, .inl (fun zz => nI (ft zz)))), ((h 5), .inl (cI, 12, .inl (fun zz => nI (B zz)))), ((h 6), .inl (cI, 12, .inl (fun zz => nI (Bt zz)))), ((h 7), .inl (cJ, 16, .inr (.inl W))), ((h 8), .inl (cJ, 16, .inr (.inl M))), ((h 9), .inl (cI, 9, .inl (fun zz => nI (a1 zz)))), ((h 10), .inl (cI, 9, .inl (fun zz => nI (a2 zz)))), ((h 11), .inl (cI, 198, .inl (fun zz => nI (a3 zz)))), ((h 12), .inl (cI, 9, .inl (fun zz => nI (a4 zz)))), ((h 13), .inl (cI, 9, .inl (fA a5)))] (S := Unit) (fun _ => True) (fun _ => some (.int (nI (acO (F 3) B y b (F 0))))) (fun _ => [((h 0), .inr (6, [.ref ((h 1)), .ref ((h 2)), .ref ((h 3)), .int (nI km), .ref ((h 4)), .int (nI le), .int (nI sp), .ref ((h 5)), .ref ((h 6)), .int (nI ro), .ref ((h 7)), .ref ((h 8)), .ref ((h 9)), .ref ((h 10)), .ref ((h 11)), .ref ((h 12)), .ref ((h 13))])), ((h 1), .inl (cI, 99, .inl (sA F))), ((h 2), .inl (cI, 99, .inl fr)), ((h 3), .inl (cI, 594, .inl (kA Q))), ((h 4), .inl (cI, 200, .inl (fun zz => nI (ft zz)))), ((h 5), .inl (cI, 12, .inl (fun zz => nI (B zz)))), ((h 6), .inl (cI, 12, .inl (fun zz => nI (Bt zz)))), ((h 7), .inl (cJ, 16, .inr (.inl W))), ((h 8), .inl (cJ, 16, .inr (.inl M))), ((h 9), .inl (cI, 9, .inl (fun zz => nI (a1 zz)))), ((h 10), .inl (cI, 9, .inl (fun zz => nI (a2 zz)))), ((h 11), .inl (cI, 198, .inl (fun zz => nI (a3 zz)))), ((h 12), .inl (cI, 9, .inl (fun zz => nI (a4 zz)))), ((h 13), .inl (cI, 9, .inl (fA a5)))]) := by
  refine Ct.of (lv := [(0, .ref ((h 0))), (1, .int (nI b)), (2, .int (nI y))]) (by decide) rfl (Nat.le_of_ble_eq_true rfl) rfl ?_
  intro ε hL EE FF
  have Lp_10 : ∀ (nf : Nat), ∀ (p : Nat), 4 - p < nf → (p ≤ F 0) → J l (rmD (1)) D ε [((h 0), .inr (6, [.ref ((h 1)), .ref ((h 2)), .ref ((h 3)), .int (nI km), .ref ((h 4)), .int (nI le), .int (nI sp), .ref ((h 5)), .ref ((h 6)), .int (nI ro), .ref ((h 7)), .ref ((h 8)), .ref ((h 9)), .ref ((h 10)), .ref ((h 11)), .ref ((h 12)), .ref ((h 13))])), ((h 1), .inl (cI, 99, .inl (sA F))), ((h 2), .inl (cI, 99, .inl fr)), ((h 3), .inl (cI, 594, .inl (kA Q))), ((h 4), .inl (cI, 200, .inl (fun zz => nI (ft zz)))), ((h 5), .inl (cI, 12, .inl (fun zz => nI (B zz)))), ((h 6), .inl (cI, 12, .inl (fun zz => nI (Bt zz)))), ((h 7), .inl (cJ, 16, .inr (.inl W))), ((h 8), .inl (cJ, 16, .inr (.inl M))), ((h 9), .inl (cI, 9, .inl (fun zz => nI (a1 zz)))), ((h 10), .inl (cI, 9, .inl (fun zz => nI (a2 zz)))), ((h 11), .inl (cI, 198, .inl (fun zz => nI (a3 zz)))), ((h 12), .inl (cI, 9, .inl (fun zz => nI (a4 zz)))), ((h 13), .inl (cI, 9, .inl (fA a5)))] 10 [(4, .int (nI p)), (3, .int (nI (acO (F 3) B y b p))), (0, .ref ((h 0))), (1, .int (nI b)), (2, .int (nI y))] [] := by
    intro nf
    induction nf with
    | zero => intro p hm; exact absurd hm (Nat.not_lt_zero _)
    | succ nf ihp_10 =>
      intro p hm10 hp
      have Lp_24 : ∀ (nf : Nat), ∀ (u : Nat), 16 - u < nf → (u ≤ 16) → (p < F 0) → J l (rmD (1)) D ε [((h 0), .inr (6, [.ref ((h 1)), .ref ((h 2)), .ref ((h 3)), .int (nI km), .ref ((h 4)), .int (nI le), .int (nI sp), .ref ((h 5)), .ref ((h 6)), .int (nI ro), .ref ((h 7)), .ref ((h 8)), .ref ((h 9)), .ref ((h 10)), .ref ((h 11)), .ref ((h 12)), .ref ((h 13))])), ((h 1), .inl (cI, 99, .inl (sA F))), ((h 2), .inl (cI, 99, .inl fr)), ((h 3), .inl (cI, 594, .inl (kA Q))), ((h 4), .inl (cI, 200, .inl (fun zz => nI (ft zz)))), ((h 5), .inl (cI, 12, .inl (fun zz => nI (B zz)))), ((h 6), .inl (cI, 12, .inl (fun zz => nI (Bt zz)))), ((h 7), .inl (cJ, 16, .inr (.inl W))), ((h 8), .inl (cJ, 16, .inr (.inl M))), ((h 9), .inl (cI, 9, .inl (fun zz => nI (a1 zz)))), ((h 10), .inl (cI, 9, .inl (fun zz => nI (a2 zz)))), ((h 11), .inl (cI, 198, .inl (fun zz => nI (a3 zz)))), ((h 12), .inl (cI, 9, .inl (fun zz => nI (a4 zz)))), ((h 13), .inl (cI, 9, .inl (fA a5)))] 24 [(5, .int (nI u)), (4, .int (nI p)), (3, .int (nI (acI (B (3 * p + y)) b p (acO (F 3) B y b p) u))), (0, .ref ((h 0))), (1, .int (nI b)), (2, .int (nI y))] [] := by
        intro nf
        induction nf with
        | zero => intro u hm; exact absurd hm (Nat.not_lt_zero _)
        | succ nf ihp_24 =>
          intro u hm24 hu hpl
          have hBp := hB (3 * p + y)
          refine j_iload EE 0 dX10_accepted_24 rfl ?_
          refine j_bipush (v := nI 16) EE dX10_accepted_26 (by decide) ?_
          refine j_icmp_ge EE 76 dX10_accepted_28 (by decide) (fun c28 => ?_) (fun c28 => ?_)
          · skip
            have n28 : 16 ≤ u := (nI_leI (a := 16) (b := u) (by omega) (by omega)).mp c28
            refine j_iinc (v := nI (p + 1)) EE 1 [(4, .int (nI (p + 1))), (5, _), (3, _), (0, _), (1, _), (2, _)] dX10_accepted_76 rfl (nI_1 p) (Nat.lt_of_lt_of_eq (by decide) hL.symm) rfl ?_
            refine j_goto EE 10 dX10_accepted_79 (by decide) ?_
            refine j_lv [0, 2, 3, 4, 5] rfl ?_
            rw [show u = 16 by omega, show acI (B (3 * p + y)) b p (acO (F 3) B y b p) 16 = acO (F 3) B y b (p + 1) from rfl]
            exact ihp_10 (p + 1) (by omega) (by omega)
          · skip
            have n28 : ¬ 16 ≤ u := fun hq => c28 ((nI_leI (a := 16) (b := u) (by omega) (by omega)).mpr hq)
            refine j_iload_n EE 2 dX10_accepted_31 rfl rfl ?_
            refine j_aload_n EE 3 dX10_accepted_32 rfl rfl ?_
            refine j_get (T := TX10) EE iw_X10_accepted_X10 0 rfl rfl 7 (by decide) lk_X10_accepted_22 rfl dX10_accepted_33 ?_
            refine j_iconst (v := nI 3) EE dX10_accepted_36 (by decide) ?_
            refine j_iload EE 1 dX10_accepted_37 rfl ?_
            refine j_imul EE dX10_accepted_39 ?_
            refine j_topE (pk_mul 3 p) ?_
            refine j_iload_n EE 5 dX10_accepted_40 rfl rfl ?_
            refine j_iadd EE dX10_accepted_41 ?_
            refine j_topE (nI_add (3 * p) y) ?_
            refine j_iald EE 5 0 rfl rfl (vp_in_nI (n := (3 * p) + y) (by omega) (by decide)) dX10_accepted_42 ?_
            refine j_topE (congrArg (fun zz => nI (B zz)) (nI_clamp (n := (3 * p) + y) (by omega))) ?_
            refine j_topE (y := nI (B ((3 * p) + y))) rfl ?_
            refine j_iload EE 0 dX10_accepted_43 rfl ?_
            refine j_S2 (n9 := 14) EE (c_X10_has (B ((3 * p) + y)) u (by have := hB ((3 * p) + y); omega) (by have := hB ((3 * p) + y); omega)) gX10_accepted_X10_has hd_X10_has rfl ⟨rfl, rfl⟩ ⟨by decide, by decide⟩ rfl [] rfl [0, 1, 2, 3, 4, 5, 6, 7, 8, 9, 10, 11, 12, 13] [((h 0), .inr (6, [.ref ((h 1)), .ref ((h 2)), .ref ((h 3)), .int (nI km), .ref ((h 4)), .int (nI le), .int (nI sp), .ref ((h 5)), .ref ((h 6)), .int (nI ro), .ref ((h 7)), .ref ((h 8)), .ref ((h 9)), .ref ((h 10)), .ref ((h 11)), .ref ((h 12)), .ref ((h 13))])), ((h 1), .inl (cI, 99, .inl (sA F))), ((h 2), .inl (cI, 99, .inl fr)), ((h 3), .inl (cI, 594, .inl (kA Q))), ((h 4), .inl (cI, 200, .inl (fun zz => nI (ft zz)))), ((h 5), .inl (cI, 12, .inl (fun zz => nI (B zz)))), ((h 6), .inl (cI, 12, .inl (fun zz => nI (Bt zz)))), ((h 7), .inl (cJ, 16, .inr (.inl W))), ((h 8), .inl (cJ, 16, .inr (.inl M))), ((h 9), .inl (cI, 9, .inl (fun zz => nI (a1 zz)))), ((h 10), .inl (cI, 9, .inl (fun zz => nI (a2 zz)))), ((h 11), .inl (cI, 198, .inl (fun zz => nI (a3 zz)))), ((h 12), .inl (cI, 9, .inl (fun zz => nI (a4 zz)))), ((h 13), .inl (cI, 9, .inl (fA a5)))] (fun _ => rfl) [((h 0), .inr (6, [.ref ((h 1)), .ref ((h 2)), .ref ((h 3)), .int (nI km), .ref ((h 4)), .int (nI le), .int (nI sp), .ref ((h 5)), .ref ((h 6)), .int (nI ro), .ref ((h 7)), .ref ((h 8)), .ref ((h 9)), .ref ((h 10)), .ref ((h 11)), .ref ((h 12)), .ref ((h 13))])), ((h 1), .inl (cI, 99, .inl (sA F))), ((h 2), .inl (cI, 99, .inl fr)), ((h 3), .inl (cI, 594, .inl (kA Q))), ((h 4), .inl (cI, 200, .inl (fun zz => nI (ft zz)))), ((h 5), .inl (cI, 12, .inl (fun zz => nI (B zz)))), ((h 6), .inl (cI, 12, .inl (fun zz => nI (Bt zz)))), ((h 7), .inl (cJ, 16, .inr (.inl W))), ((h 8), .inl (cJ, 16, .inr (.inl M))), ((h 9), .inl (cI, 9, .inl (fun zz => nI (a1 zz)))), ((h 10), .inl (cI, 9, .inl (fun zz => nI (a2 zz)))), ((h 11), .inl (cI, 198, .inl (fun zz => nI (a3 zz)))), ((h 12), .inl (cI, 9, .inl (fun zz => nI (a4 zz)))), ((h 13), .inl (cI, 9, .inl (fA a5)))] [(h 0), (h 1), (h 2), (h 3), (h 4), (h 5), (h 6), (h 7), (h 8), (h 9), (h 10), (h 11), (h 12), (h 13)] rfl rfl rfl rfl rfl (by decide) (by decide) rfl (Nat.le_of_ble_eq_true rfl) dX10_accepted_45 (fun u_45 h_45 => ?_) rfl
            show J l _ D ε _ _ _ (.int (nI (bt (B ((3 * p) + y)) u)) :: _)
            refine j_if_eq EE 67 dX10_accepted_48 (by decide) (fun c48 => ?_) (fun c48 => ?_)
            · skip
              have n48 : (bt (B ((3 * p) + y)) u) = 0 := (nI_eq (a := (bt (B ((3 * p) + y)) u)) (b := 0) (by have := bt_lt (B ((3 * p) + y)) u; omega) (by have := bt_lt (B ((3 * p) + y)) u; omega)).mp c48
              refine j_iconst (v := nI 0) EE dX10_accepted_67 (by decide) ?_
              refine j_ior EE dX10_accepted_68 ?_
              refine j_topE (nI_or (acI (B (3 * p + y)) b p (acO (F 3) B y b p) u) 0) ?_
              refine j_istore_n EE [(3, _), (5, _), (4, _), (0, _), (1, _), (2, _)] dX10_accepted_69 rfl (Nat.lt_of_lt_of_eq (by decide) hL.symm) rfl ?_
              refine j_iinc (v := nI (u + 1)) EE 1 [(5, .int (nI (u + 1))), (3, _), (4, _), (0, _), (1, _), (2, _)] dX10_accepted_70 rfl (nI_1 u) (Nat.lt_of_lt_of_eq (by decide) hL.symm) rfl ?_
              refine j_goto EE 24 dX10_accepted_73 (by decide) ?_
              refine j_lv [0, 2, 1, 3, 4, 5] rfl ?_
              first | rw [show acI (B (3 * p + y)) b p (acO (F 3) B y b p) u ||| (1 <<< p) = acI (B (3 * p + y)) b p (acO (F 3) B y b p) (u + 1) by conv => rhs; unfold acI; rw [if_pos ⟨bz_1 n48, n57⟩]] | rw [show acI (B (3 * p + y)) b p (acO (F 3) B y b p) u ||| 0 = acI (B (3 * p + y)) b p (acO (F 3) B y b p) (u + 1) by rw [Nat.or_zero]; conv => rhs; unfold acI; rw [if_neg (fun z => n57 z.2)]] | rw [show acI (B (3 * p + y)) b p (acO (F 3) B y b p) u ||| 0 = acI (B (3 * p + y)) b p (acO (F 3) B y b p) (u + 1) by rw [Nat.or_zero]; conv => rhs; unfold acI; rw [if_neg (fun z => absurd z.1 (by omega))]]
              exact ihp_24 (u + 1) (by omega) (by omega) hpl
            · skip
              have n48 : (bt (B ((3 * p) + y)) u) ≠ 0 := fun hq => c48 ((nI_eq (a := (bt (B ((3 * p) + y)) u)) (b := 0) (by have := bt_lt (B ((3 * p) + y)) u; omega) (by have := bt_lt (B ((3 * p) + y)) u; omega)).mpr hq)
              refine j_iload EE 0 dX10_accepted_51 rfl ?_
              refine j_iload_n EE 4 dX10_accepted_53 rfl rfl ?_
              refine j_iconst (v := (-1)) EE dX10_accepted_54 (by decide) ?_
              refine j_ixor EE dX10_accepted_55 ?_
              refine j_topE (y := nI b ^^^ (-1)) rfl ?_
              refine j_iand EE dX10_accepted_56 ?_
              refine j_topE (y := nI (u &&& (15 ^^^ b))) (b_sub b (by omega) u (by omega)) ?_
              refine j_if_ne EE 67 dX10_accepted_57 (by decide) (fun c57 => ?_) (fun c57 => ?_)
              · skip
                have n57 : (u &&& (15 ^^^ b)) ≠ 0 := fun hq => c57 ((nI_eq (a := (u &&& (15 ^^^ b))) (b := 0) (by have := Nat.and_le_left (n := u) (m := 15 ^^^ b); omega) (by have := Nat.and_le_left (n := u) (m := 15 ^^^ b); omega)).mpr hq)
                refine j_iconst (v := nI 0) EE dX10_accepted_67 (by decide) ?_
                refine j_ior EE dX10_accepted_68 ?_
                refine j_topE (nI_or (acI (B (3 * p + y)) b p (acO (F 3) B y b p) u) 0) ?_
                refine j_istore_n EE [(3, _), (5, _), (4, _), (0, _), (1, _), (2, _)] dX10_accepted_69 rfl (Nat.lt_of_lt_of_eq (by decide) hL.symm) rfl ?_
                refine j_iinc (v := nI (u + 1)) EE 1 [(5, .int (nI (u + 1))), (3, _), (4, _), (0, _), (1, _), (2, _)] dX10_accepted_70 rfl (nI_1 u) (Nat.lt_of_lt_of_eq (by decide) hL.symm) rfl ?_
                refine j_goto EE 24 dX10_accepted_73 (by decide) ?_
                refine j_lv [0, 2, 1, 3, 4, 5] rfl ?_
                first | rw [show acI (B (3 * p + y)) b p (acO (F 3) B y b p) u ||| (1 <<< p) = acI (B (3 * p + y)) b p (acO (F 3) B y b p) (u + 1) by conv => rhs; unfold acI; rw [if_pos ⟨bz_1 n48, n57⟩]] | rw [show acI (B (3 * p + y)) b p (acO (F 3) B y b p) u ||| 0 = acI (B (3 * p + y)) b p (acO (F 3) B y b p) (u + 1) by rw [Nat.or_zero]; conv => rhs; unfold acI; rw [if_neg (fun z => n57 z.2)]] | rw [show acI (B (3 * p + y)) b p (acO (F 3) B y b p) u ||| 0 = acI (B (3 * p + y)) b p (acO (F 3) B y b p) (u + 1) by rw [Nat.or_zero]; conv => rhs; unfold acI; rw [if_neg (fun z => absurd z.1 (by omega))]]
                exact ihp_24 (u + 1) (by omega) (by omega) hpl
              · skip
                have n57 : (u &&& (15 ^^^ b)) = 0 := (nI_eq (a := (u &&& (15 ^^^ b))) (b := 0) (by have := Nat.and_le_left (n := u) (m := 15 ^^^ b); omega) (by have := Nat.and_le_left (n := u) (m := 15 ^^^ b); omega)).mp c57
                refine j_iconst (v := nI 1) EE dX10_accepted_60 (by decide) ?_
                refine j_iload EE 1 dX10_accepted_61 rfl ?_
                refine j_ishl EE dX10_accepted_63 ?_
                refine j_topE (y := nI (1 <<< p)) (b_sh1 p (by omega)) ?_
                refine j_goto EE 68 dX10_accepted_64 (by decide) ?_
                refine j_ior EE dX10_accepted_68 ?_
                refine j_topE (nI_or (acI (B (3 * p + y)) b p (acO (F 3) B y b p) u) (1 <<< p)) ?_
                refine j_istore_n EE [(3, _), (5, _), (4, _), (0, _), (1, _), (2, _)] dX10_accepted_69 rfl (Nat.lt_of_lt_of_eq (by decide) hL.symm) rfl ?_
                refine j_iinc (v := nI (u + 1)) EE 1 [(5, .int (nI (u + 1))), (3, _), (4, _), (0, _), (1, _), (2, _)] dX10_accepted_70 rfl (nI_1 u) (Nat.lt_of_lt_of_eq (by decide) hL.symm) rfl ?_
                refine j_goto EE 24 dX10_accepted_73 (by decide) ?_
                refine j_lv [0, 2, 1, 3, 4, 5] rfl ?_
                first | rw [show acI (B (3 * p + y)) b p (acO (F 3) B y b p) u ||| (1 <<< p) = acI (B (3 * p + y)) b p (acO (F 3) B y b p) (u + 1) by conv => rhs; unfold acI; rw [if_pos ⟨bz_1 n48, n57⟩]] | rw [show acI (B (3 * p + y)) b p (acO (F 3) B y b p) u ||| 0 = acI (B (3 * p + y)) b p (acO (F 3) B y b p) (u + 1) by rw [Nat.or_zero]; conv => rhs; unfold acI; rw [if_neg (fun z => n57 z.2)]] | rw [show acI (B (3 * p + y)) b p (acO (F 3) B y b p) u ||| 0 = acI (B (3 * p + y)) b p (acO (F 3) B y b p) (u + 1) by rw [Nat.or_zero]; conv => rhs; unfold acI; rw [if_neg (fun z => absurd z.1 (by omega))]]
                exact ihp_24 (u + 1) (by omega) (by omega) hpl
      refine j_iload EE 0 dX10_accepted_10 rfl ?_
      refine j_aload_n EE 2 dX10_accepted_12 rfl rfl ?_
      refine j_get (T := TX10) EE iw_X10_accepted_X10 0 rfl rfl 0 (by decide) lk_X10_accepted_7 rfl dX10_accepted_13 ?_
      refine j_iconst (v := nI 0) EE dX10_accepted_16 (by decide) ?_
      refine j_iald EE 1 0 rfl rfl (vp_in_nI (n := 0) (by omega) (by decide)) dX10_accepted_17 ?_
      refine j_topE (congrArg (sA F) (nI_clamp (n := 0) (by omega))) ?_
      refine j_topE (y := nI (F 0)) (sA_n (by omega)) ?_
      refine j_icmp_ge EE 82 dX10_accepted_18 (by decide) (fun c18 => ?_) (fun c18 => ?_)
      · skip
        have n18 : (F 0) ≤ p := (nI_leI (a := (F 0)) (b := p) (by have := hFb 0; omega) (by have := hFb 0; omega)).mp c18
        refine j_iload_n EE 1 dX10_accepted_82 rfl rfl ?_
        exact j_iret EE FF dX10_accepted_83 () trivial (by rw [show F 0 = p by omega]) rfl
      · skip
        have n18 : ¬ (F 0) ≤ p := fun hq => c18 ((nI_leI (a := (F 0)) (b := p) (by have := hFb 0; omega) (by have := hFb 0; omega)).mpr hq)
        refine j_iconst (v := nI 0) EE dX10_accepted_21 (by decide) ?_
        refine j_istore EE [(5, _), (4, _), (3, _), (0, _), (1, _), (2, _)] dX10_accepted_22 (Nat.lt_of_lt_of_eq (by decide) hL.symm) rfl ?_
        exact Lp_24 _ 0 (Nat.lt_succ_self _) (by omega) (by omega)
  refine j_aload_n EE 0 dX10_accepted_0 rfl rfl ?_
  refine j_get (T := TX10) EE iw_X10_accepted_X10 0 rfl rfl 0 (by decide) lk_X10_accepted_7 rfl dX10_accepted_1 ?_
  refine j_iconst (v := nI 3) EE dX10_accepted_4 (by decide) ?_
  refine j_iald EE 1 0 rfl rfl (vp_in_nI (n := 3) (by omega) (by decide)) dX10_accepted_5 ?_
  refine j_topE (congrArg (sA F) (nI_clamp (n := 3) (by omega))) ?_
  refine j_topE (y := nI (F 3)) (sA_n (by omega)) ?_
  refine j_istore_n EE [(3, _), (0, _), (1, _), (2, _)] dX10_accepted_6 rfl (Nat.lt_of_lt_of_eq (by decide) hL.symm) rfl ?_
  refine j_iconst (v := nI 0) EE dX10_accepted_7 (by decide) ?_
  refine j_istore EE [(4, _), (3, _), (0, _), (1, _), (2, _)] dX10_accepted_8 (Nat.lt_of_lt_of_eq (by decide) hL.symm) rfl ?_
  exact Lp_10 _ 0 (Nat.lt_succ_self _) (by omega)

theorem iw_X10_isAccepted_X10 : ∀ w ∈ wsX100, w ∈ wsX10_isAccepted := fun _ h => List.mem_cons_of_mem _ (List.mem_append_right _ h)
theorem lk_X10_isAccepted_7 : Cond.fieldLink RX10 7 (TX10 0).1 (TX10 0).2.1 (TX10 0).2.2.1 ∈ wsX10_isAccepted := List.mem_of_getElem? (i := 1) rfl
theorem hd_X10_accepted : yX10_accepted.cls ≠ "java/lang/invoke/MethodHandle" ∧ yX10_accepted.cls ≠ "java/lang/invoke/VarHandle" ∧ (parseMethodDescriptor yX10_accepted.desc).map (fun d => d.parameters.length) = some 2 := by decide +kernel
set_option maxHeartbeats 4000000 in
set_option maxRecDepth 100000 in
theorem c_X10_isAccepted (h F Q ft B Bt a1 a2 a3 a4 a5 : Nat → Nat) (fr : Nat → Int32) (W M : Nat → Int64) (km le sp ro : Nat) (hFb : ∀ i, F i < 65536) (ht : F 3 < 16) (hP : F 0 ≤ 4) (hq : F 85 < 4) (h12 : F 86 ≤ 12) (hsy : ∀ k, k < F 86 → F (87 + k) < 3) (hB : ∀ i, B i < 65536) : Ct l yX10_isAccepted wsX10_isAccepted (rmD (2)) D [(cI, .int), (cC, .char), (cJ, .long), (cG, .object "PushdownGameSolver$Game")] [.ref ((h 0))] [((h 0), .inr (6, [.ref ((h 1)), .ref ((h 2)), .ref ((h 3)), .int (nI km), .ref ((h 4)), .int (nI le), .int (nI sp), .ref ((h 5)), .ref ((h 6)), .int (nI ro), .ref ((h 7)), .ref ((h 8)), .ref ((h 9)), .ref ((h 10)), .ref ((h 11)), .ref ((h 12)), .ref ((h 13))])), ((h 1), .inl (cI, 99, .inl (sA F))), ((h 2), .inl (cI, 99, .inl fr)), ((h 3), .inl (cI, 594, .inl (kA Q))), ((h 4), .inl (cI, 200, .inl (fun zz => nI (ft zz)))), ((h 5), .inl (cI, 12, .inl (fun zz => nI (B zz)))), ((h 6), .inl (cI, 12, .inl (fun zz => nI (Bt zz)))), ((h 7), .inl (cJ, 16, .inr (.inl W))), ((h 8), .inl (cJ, 16, .inr (.inl M))), ((h 9), .inl (cI, 9, .inl (fun zz => nI (a1 zz)))), ((h 10), .inl (cI, 9, .inl (fun zz => nI (a2 zz)))), ((h 11), .inl (cI, 198, .inl (fun zz => nI (a3 zz)))), ((h 12), .inl (cI, 9, .inl (fun zz => nI (a4 zz)))), ((h 13), .inl (cI, 9, .inl (fA a5)))] (S := Unit) (fun _ => True) (fun _ => some (.int (nI (bt (acM F B (F 86)) (F 85))))) (fun _ => [((h 0), .inr (6, [.ref ((h 1)), .ref ((h 2)), .ref ((h 3)), .int (nI km), .ref ((h 4)), .int (nI le), .int (nI sp), .ref ((h 5)), .ref ((h 6)), .int (nI ro), .ref ((h 7)), .ref ((h 8)), .ref ((h 9)), .ref ((h 10)), .ref ((h 11)), .ref ((h 12)), .ref ((h 13))])), ((h 1), .inl (cI, 99, .inl (sA F))), ((h 2), .inl (cI, 99, .inl fr)), ((h 3), .inl (cI, 594, .inl (kA Q))), ((h 4), .inl (cI, 200, .inl (fun zz => nI (ft zz)))), ((h 5), .inl (cI, 12, .inl (fun zz => nI (B zz)))), ((h 6), .inl (cI, 12, .inl (fun zz => nI (Bt zz)))), ((h 7), .inl (cJ, 16, .inr (.inl W))), ((h 8), .inl (cJ, 16, .inr (.inl M))), ((h 9), .inl (cI, 9, .inl (fun zz => nI (a1 zz)))), ((h 10), .inl (cI, 9, .inl (fun zz => nI (a2 zz)))), ((h 11), .inl (cI, 198, .inl (fun zz => nI (a3 zz)))), ((h 12), .inl (cI, 9, .inl (fun zz => nI (a4 zz)))), ((h 13), .inl (cI, 9, .inl (fA a5)))]) := by
  refine Ct.of (lv := [(0, .ref ((h 0)))]) (by decide) rfl (Nat.le_of_ble_eq_true rfl) rfl ?_
  intro ε hL EE FF
  have Lp_9 : ∀ (nf : Nat), ∀ (k : Nat), 13 - k < nf → (k ≤ F 86) → J l (rmD (2)) D ε [((h 0), .inr (6, [.ref ((h 1)), .ref ((h 2)), .ref ((h 3)), .int (nI km), .ref ((h 4)), .int (nI le), .int (nI sp), .ref ((h 5)), .ref ((h 6)), .int (nI ro), .ref ((h 7)), .ref ((h 8)), .ref ((h 9)), .ref ((h 10)), .ref ((h 11)), .ref ((h 12)), .ref ((h 13))])), ((h 1), .inl (cI, 99, .inl (sA F))), ((h 2), .inl (cI, 99, .inl fr)), ((h 3), .inl (cI, 594, .inl (kA Q))), ((h 4), .inl (cI, 200, .inl (fun zz => nI (ft zz)))), ((h 5), .inl (cI, 12, .inl (fun zz => nI (B zz)))), ((h 6), .inl (cI, 12, .inl (fun zz => nI (Bt zz)))), ((h 7), .inl (cJ, 16, .inr (.inl W))), ((h 8), .inl (cJ, 16, .inr (.inl M))), ((h 9), .inl (cI, 9, .inl (fun zz => nI (a1 zz)))), ((h 10), .inl (cI, 9, .inl (fun zz => nI (a2 zz)))), ((h 11), .inl (cI, 198, .inl (fun zz => nI (a3 zz)))), ((h 12), .inl (cI, 9, .inl (fun zz => nI (a4 zz)))), ((h 13), .inl (cI, 9, .inl (fA a5)))] 9 [(2, .int (nI k)), (1, .int (nI (acM F B k))), (0, .ref ((h 0)))] [] := by
    intro nf
    induction nf with
    | zero => intro k hm; exact absurd hm (Nat.not_lt_zero _)
    | succ nf ihp_9 =>
      intro k hm9 hk
      have hal := acM_lt (B := B) ht hP k
      refine j_iload_n EE 0 dX10_isAccepted_9 rfl rfl ?_
      refine j_aload_n EE 2 dX10_isAccepted_10 rfl rfl ?_
      refine j_get (T := TX10) EE iw_X10_isAccepted_X10 0 rfl rfl 0 (by decide) lk_X10_isAccepted_7 rfl dX10_isAccepted_11 ?_
      refine j_bipush (v := nI 86) EE dX10_isAccepted_14 (by decide) ?_
      refine j_iald EE 1 0 rfl rfl (vp_in_nI (n := 86) (by omega) (by decide)) dX10_isAccepted_16 ?_
      refine j_topE (congrArg (sA F) (nI_clamp (n := 86) (by omega))) ?_
      refine j_topE (y := nI (F 86)) (sA_n (by omega)) ?_
      refine j_icmp_ge EE 41 dX10_isAccepted_17 (by decide) (fun c17 => ?_) (fun c17 => ?_)
      · skip
        have n17 : (F 86) ≤ k := (nI_leI (a := (F 86)) (b := k) (by have := hFb 86; omega) (by have := hFb 86; omega)).mp c17
        refine j_iload_n EE 1 dX10_isAccepted_41 rfl rfl ?_
        refine j_aload_n EE 2 dX10_isAccepted_42 rfl rfl ?_
        refine j_get (T := TX10) EE iw_X10_isAccepted_X10 0 rfl rfl 0 (by decide) lk_X10_isAccepted_7 rfl dX10_isAccepted_43 ?_
        refine j_bipush (v := nI 85) EE dX10_isAccepted_46 (by decide) ?_
        refine j_iald EE 1 0 rfl rfl (vp_in_nI (n := 85) (by omega) (by decide)) dX10_isAccepted_48 ?_
        refine j_topE (congrArg (sA F) (nI_clamp (n := 85) (by omega))) ?_
        refine j_topE (y := nI (F 85)) (sA_n (by omega)) ?_
        refine j_S2 (n9 := 14) EE (c_X10_has (acM F B k) (F 85) (by have := hFb 85; omega) (by have := hFb 85; omega)) gX10_isAccepted_X10_has hd_X10_has rfl ⟨rfl, rfl⟩ ⟨by decide, by decide⟩ rfl [] rfl [0, 1, 2, 3, 4, 5, 6, 7, 8, 9, 10, 11, 12, 13] [((h 0), .inr (6, [.ref ((h 1)), .ref ((h 2)), .ref ((h 3)), .int (nI km), .ref ((h 4)), .int (nI le), .int (nI sp), .ref ((h 5)), .ref ((h 6)), .int (nI ro), .ref ((h 7)), .ref ((h 8)), .ref ((h 9)), .ref ((h 10)), .ref ((h 11)), .ref ((h 12)), .ref ((h 13))])), ((h 1), .inl (cI, 99, .inl (sA F))), ((h 2), .inl (cI, 99, .inl fr)), ((h 3), .inl (cI, 594, .inl (kA Q))), ((h 4), .inl (cI, 200, .inl (fun zz => nI (ft zz)))), ((h 5), .inl (cI, 12, .inl (fun zz => nI (B zz)))), ((h 6), .inl (cI, 12, .inl (fun zz => nI (Bt zz)))), ((h 7), .inl (cJ, 16, .inr (.inl W))), ((h 8), .inl (cJ, 16, .inr (.inl M))), ((h 9), .inl (cI, 9, .inl (fun zz => nI (a1 zz)))), ((h 10), .inl (cI, 9, .inl (fun zz => nI (a2 zz)))), ((h 11), .inl (cI, 198, .inl (fun zz => nI (a3 zz)))), ((h 12), .inl (cI, 9, .inl (fun zz => nI (a4 zz)))), ((h 13), .inl (cI, 9, .inl (fA a5)))] (fun _ => rfl) [((h 0), .inr (6, [.ref ((h 1)), .ref ((h 2)), .ref ((h 3)), .int (nI km), .ref ((h 4)), .int (nI le), .int (nI sp), .ref ((h 5)), .ref ((h 6)), .int (nI ro), .ref ((h 7)), .ref ((h 8)), .ref ((h 9)), .ref ((h 10)), .ref ((h 11)), .ref ((h 12)), .ref ((h 13))])), ((h 1), .inl (cI, 99, .inl (sA F))), ((h 2), .inl (cI, 99, .inl fr)), ((h 3), .inl (cI, 594, .inl (kA Q))), ((h 4), .inl (cI, 200, .inl (fun zz => nI (ft zz)))), ((h 5), .inl (cI, 12, .inl (fun zz => nI (B zz)))), ((h 6), .inl (cI, 12, .inl (fun zz => nI (Bt zz)))), ((h 7), .inl (cJ, 16, .inr (.inl W))), ((h 8), .inl (cJ, 16, .inr (.inl M))), ((h 9), .inl (cI, 9, .inl (fun zz => nI (a1 zz)))), ((h 10), .inl (cI, 9, .inl (fun zz => nI (a2 zz)))), ((h 11), .inl (cI, 198, .inl (fun zz => nI (a3 zz)))), ((h 12), .inl (cI, 9, .inl (fun zz => nI (a4 zz)))), ((h 13), .inl (cI, 9, .inl (fA a5)))] [(h 0), (h 1), (h 2), (h 3), (h 4), (h 5), (h 6), (h 7), (h 8), (h 9), (h 10), (h 11), (h 12), (h 13)] rfl rfl rfl rfl rfl (by decide) (by decide) rfl (Nat.le_of_ble_eq_true rfl) dX10_isAccepted_49 (fun u_49 h_49 => ?_) rfl
        show J l _ D ε _ _ _ (.int (nI (bt (acM F B k) (F 85))) :: _)
        exact j_zret EE FF (by have hb8 := bt_lt (acM F B k) (F 85); rcases (show bt (acM F B k) (F 85) = 0 ∨ bt (acM F B k) (F 85) = 1 by omega) with hz | hz <;> rw [hz] <;> decide) dX10_isAccepted_52 () trivial (by rw [show F 86 = k by omega]) rfl
      · skip
        have n17 : ¬ (F 86) ≤ k := fun hq => c17 ((nI_leI (a := (F 86)) (b := k) (by have := hFb 86; omega) (by have := hFb 86; omega)).mpr hq)
        refine j_aload_n EE 2 dX10_isAccepted_20 rfl rfl ?_
        refine j_iload_n EE 1 dX10_isAccepted_21 rfl rfl ?_
        refine j_aload_n EE 2 dX10_isAccepted_22 rfl rfl ?_
        refine j_get (T := TX10) EE iw_X10_isAccepted_X10 0 rfl rfl 0 (by decide) lk_X10_isAccepted_7 rfl dX10_isAccepted_23 ?_
        refine j_bipush (v := nI 87) EE dX10_isAccepted_26 (by decide) ?_
        refine j_iload_n EE 0 dX10_isAccepted_28 rfl rfl ?_
        refine j_iadd EE dX10_isAccepted_29 ?_
        refine j_topE (nI_add 87 k) ?_
        refine j_iald EE 1 0 rfl rfl (vp_in_nI (n := 87 + k) (by omega) (by decide)) dX10_isAccepted_30 ?_
        refine j_topE (congrArg (sA F) (nI_clamp (n := 87 + k) (by omega))) ?_
        refine j_topE (y := nI (F (87 + k))) (sA_n (by omega)) ?_
        have hs9 := hsy k (by omega)
        refine j_V2 (n9 := 14) EE (c_X10_accepted h F Q ft B Bt a1 a2 a3 a4 a5 fr W M km le sp ro (acM F B k) (F (87 + k)) hFb (by have := hFb (87 + k); omega) (by have := hFb (87 + k); omega) (by omega) (by omega) hB) gX10_isAccepted_X10_accepted ⟨rfl, hd_X10_accepted⟩ rfl ⟨rfl, rfl⟩ ⟨by decide, by decide⟩ rfl [0, 1, 2, 3, 4, 5, 6, 7, 8, 9, 10, 11, 12, 13] rfl [] [((h 0), .inr (6, [.ref ((h 1)), .ref ((h 2)), .ref ((h 3)), .int (nI km), .ref ((h 4)), .int (nI le), .int (nI sp), .ref ((h 5)), .ref ((h 6)), .int (nI ro), .ref ((h 7)), .ref ((h 8)), .ref ((h 9)), .ref ((h 10)), .ref ((h 11)), .ref ((h 12)), .ref ((h 13))])), ((h 1), .inl (cI, 99, .inl (sA F))), ((h 2), .inl (cI, 99, .inl fr)), ((h 3), .inl (cI, 594, .inl (kA Q))), ((h 4), .inl (cI, 200, .inl (fun zz => nI (ft zz)))), ((h 5), .inl (cI, 12, .inl (fun zz => nI (B zz)))), ((h 6), .inl (cI, 12, .inl (fun zz => nI (Bt zz)))), ((h 7), .inl (cJ, 16, .inr (.inl W))), ((h 8), .inl (cJ, 16, .inr (.inl M))), ((h 9), .inl (cI, 9, .inl (fun zz => nI (a1 zz)))), ((h 10), .inl (cI, 9, .inl (fun zz => nI (a2 zz)))), ((h 11), .inl (cI, 198, .inl (fun zz => nI (a3 zz)))), ((h 12), .inl (cI, 9, .inl (fun zz => nI (a4 zz)))), ((h 13), .inl (cI, 9, .inl (fA a5)))] (fun _ => rfl) [] [(h 0), (h 1), (h 2), (h 3), (h 4), (h 5), (h 6), (h 7), (h 8), (h 9), (h 10), (h 11), (h 12), (h 13)] rfl rfl rfl rfl rfl (by decide) (by decide) 0 rfl rfl rfl (Nat.le_of_ble_eq_true rfl) dX10_isAccepted_31 (fun u_31 h_31 => ?_) rfl
        show J l _ D ε _ _ _ (.int (nI (acO (F 3) B (F (87 + k)) (acM F B k) (F 0))) :: _)
        refine j_istore_n EE [(1, _), (2, _), (0, _)] dX10_isAccepted_34 rfl (Nat.lt_of_lt_of_eq (by decide) hL.symm) rfl ?_
        refine j_iinc (v := nI (k + 1)) EE 1 [(2, .int (nI (k + 1))), (1, _), (0, _)] dX10_isAccepted_35 rfl (nI_1 k) (Nat.lt_of_lt_of_eq (by decide) hL.symm) rfl ?_
        refine j_goto EE 9 dX10_isAccepted_38 (by decide) ?_
        rw [show acO (F 3) B (F (87 + k)) (acM F B k) (F 0) = acM F B (k + 1) from rfl]
        exact ihp_9 (k + 1) (by omega) (by omega)
  refine j_aload_n EE 0 dX10_isAccepted_0 rfl rfl ?_
  refine j_get (T := TX10) EE iw_X10_isAccepted_X10 0 rfl rfl 0 (by decide) lk_X10_isAccepted_7 rfl dX10_isAccepted_1 ?_
  refine j_iconst (v := nI 3) EE dX10_isAccepted_4 (by decide) ?_
  refine j_iald EE 1 0 rfl rfl (vp_in_nI (n := 3) (by omega) (by decide)) dX10_isAccepted_5 ?_
  refine j_topE (congrArg (sA F) (nI_clamp (n := 3) (by omega))) ?_
  refine j_topE (y := nI (F 3)) (sA_n (by omega)) ?_
  refine j_istore_n EE [(1, _), (0, _)] dX10_isAccepted_6 rfl (Nat.lt_of_lt_of_eq (by decide) hL.symm) rfl ?_
  refine j_iconst (v := nI 0) EE dX10_isAccepted_7 (by decide) ?_
  refine j_istore_n EE [(2, _), (1, _), (0, _)] dX10_isAccepted_8 rfl (Nat.lt_of_lt_of_eq (by decide) hL.symm) rfl ?_
  exact Lp_9 _ 0 (Nat.lt_succ_self _) (by omega)

end G_42_mod3
