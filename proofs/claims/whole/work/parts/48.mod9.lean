section G_48_mod9
variable {l : Launch} {D : va_G} {cI cC cJ cG : ClassId}

abbrev DT : Type := (Nat → Nat) × (Nat → Nat) × (Nat → Nat) × (Nat → Nat) × (Nat → Nat)
theorem updN_id (a : Nat → Nat) (k : Nat) : updN a k (a k) = a := by
  funext j
  unfold updN
  by_cases h : j = k
  · subst h; rw [if_pos rfl]
  · rw [if_neg h]
theorem updN_2 (a : Nat → Nat) (k c d : Nat) : updN (updN a k c) k d = updN a k d := by
  funext j
  unfold updN
  by_cases h : j = k
  · rw [if_pos h, if_pos h]
  · rw [if_neg h, if_neg h, if_neg h]
theorem upd_fAn {a : Nat → Nat} {k c d : Nat} (hd : c + 1 = d) : upd (fA a) k (nI c) = fA (updN a k d) := by
  subst hd
  rw [← upd_fA, ← nI_p1]
def byN (res : Nat) : Nat := if res < 1001 then res + 1 else 1001
def fnd (op had res : Nat) : Nat := if had = 0 then byN res else if op = 1 then (if had < byN res then byN res else had) else (if byN res < had then byN res else had)
abbrev plA (F a1 a2 a3 : Nat → Nat) (v r : Nat) : Prop := 0 < a2 v ∧ F (5 + 5 * r) = a1 v ∧ F (5 + 5 * r + 1) = a3 (22 * v + a2 v - 1)
/-- the walk over the pile: from this level and result (one higher, 0 none) it ends after n turns with o -/
def dRun (F : Nat → Nat) (fi mv : Nat) : Nat → Nat → Nat → (Nat → Nat) → (Nat → Nat) → (Nat → Nat) → (Nat → Nat) → (Nat → Nat) → Nat × DT → Prop
  | 0, v, res, a1, a2, a3, a4, a5, o => v = fi ∧ 1 ≤ res ∧ o = (res, a1, a2, a3, a4, a5)
  | n + 1, v, res, a1, a2, a3, a4, a5, o => (v < 9 ∧ fi ≤ v ∧ res ≤ 1001 ∧ a1 v < 4 ∧ (∀ i, a1 i < 65536) ∧ (∀ i, a3 i < 65536) ∧ a2 v ≤ 20 ∧ a4 v ≤ F 4 ∧ a5 v ≤ 1001) ∧
      (if res = 0 then (if bt (F 3) (a1 v) = 1 then dRun F fi mv n v 1 a1 a2 a3 a4 a5 o else ∀ r, a4 v ≤ r → r ≤ F 4 → (∀ i, a4 v ≤ i → i < r → ¬ plA F a1 a2 a3 v i) → (r < F 4 → plA F a1 a2 a3 v r) →
          (if v = fi + mv ∨ r = F 4 then dRun F fi mv n v (if a5 v = 0 then 1001 else a5 v) a1 a2 a3 (updN a4 v r) a5 o
           else v < 8 ∧ dRun F fi mv n (v + 1) 0 (updN a1 (v + 1) (F (5 + 5 * r + 2))) (updN a2 (v + 1) (goH F a2 v r)) (goP F a2 a3 v r) (updN (updN a4 v (r + 1)) (v + 1) 0) (updN a5 (v + 1) 0) o))
       else fi < v ∧ a1 (v - 1) < 4 ∧ a5 (v - 1) ≤ 1001 ∧ dRun F fi mv n (v - 1) 0 a1 a2 a3 a4 (updN a5 (v - 1) (fnd (bt (F 2) (a1 (v - 1))) (a5 (v - 1)) res)) o)
theorem dRun_end {F : Nat → Nat} {fi mv n v res : Nat} {a1 a2 a3 a4 a5 : Nat → Nat} {o : Nat × DT} (h : dRun F fi mv n v res a1 a2 a3 a4 a5 o) (hv : ¬ fi < v) (hr : res ≠ 0) : o = (res, a1, a2, a3, a4, a5) := by
  cases n with
  | zero => exact h.2.2
  | succ n =>
    unfold dRun at h
    rw [if_neg hr] at h
    exact absurd h.2.1 hv
theorem dRun_up {F : Nat → Nat} {fi mv n v res : Nat} {a1 a2 a3 a4 a5 : Nat → Nat} {o : Nat × DT} (h : dRun F fi mv n v res a1 a2 a3 a4 a5 o) (hv : fi < v) (hr : res ≠ 0) : ∃ n1, n = n1 + 1 ∧ v < 9 ∧ res ≤ 1001 ∧ a1 (v - 1) < 4 ∧ a5 (v - 1) ≤ 1001 ∧ dRun F fi mv n1 (v - 1) 0 a1 a2 a3 a4 (updN a5 (v - 1) (fnd (bt (F 2) (a1 (v - 1))) (a5 (v - 1)) res)) o := by
  cases n with
  | zero => exact absurd h.1 (by omega)
  | succ n =>
    unfold dRun at h
    rw [if_neg hr] at h
    exact ⟨n, rfl, h.1.1, h.1.2.2.1, h.2.2.1, h.2.2.2.1, h.2.2.2.2⟩
theorem dRun_dn {F : Nat → Nat} {fi mv n v res : Nat} {a1 a2 a3 a4 a5 : Nat → Nat} {o : Nat × DT} (h : dRun F fi mv n v res a1 a2 a3 a4 a5 o) (hr : res = 0) : ∃ n1, n = n1 + 1 ∧ (v < 9 ∧ fi ≤ v ∧ res ≤ 1001 ∧ a1 v < 4 ∧ (∀ i, a1 i < 65536) ∧ (∀ i, a3 i < 65536) ∧ a2 v ≤ 20 ∧ a4 v ≤ F 4 ∧ a5 v ≤ 1001) ∧
     (bt (F 3) (a1 v) = 1 → dRun F fi mv n1 v 1 a1 a2 a3 a4 a5 o) ∧ (¬ bt (F 3) (a1 v) = 1 → ∀ r, a4 v ≤ r → r ≤ F 4 → (∀ i, a4 v ≤ i → i < r → ¬ plA F a1 a2 a3 v i) → (r < F 4 → plA F a1 a2 a3 v r) →
        ((v = fi + mv ∨ r = F 4) → dRun F fi mv n1 v (if a5 v = 0 then 1001 else a5 v) a1 a2 a3 (updN a4 v r) a5 o) ∧ (¬ (v = fi + mv ∨ r = F 4) → v < 8 ∧ dRun F fi mv n1 (v + 1) 0 (updN a1 (v + 1) (F (5 + 5 * r + 2))) (updN a2 (v + 1) (goH F a2 v r)) (goP F a2 a3 v r) (updN (updN a4 v (r + 1)) (v + 1) 0) (updN a5 (v + 1) 0) o)) := by
  cases n with
  | zero => exact absurd h.2.1 (by omega)
  | succ n =>
    unfold dRun at h
    rw [if_pos hr] at h
    refine ⟨n, rfl, h.1, fun hb => ?_, fun hb r q1 q2 q3 q4 => ?_⟩
    · have h2 := h.2
      rw [if_pos hb] at h2
      exact h2
    · have h2 := h.2
      rw [if_neg hb] at h2
      have h3 := h2 r q1 q2 q3 q4
      refine ⟨fun hz => ?_, fun hz => ?_⟩
      · rw [if_pos hz] at h3
        exact h3
      · rw [if_neg hz] at h3
        exact h3
theorem m1_lt {u : Nat} (hu : u < 65536) : nI u - nI 1 < 0 ↔ u = 0 := by
  constructor
  · intro h
    rcases Nat.eq_zero_or_pos u with hz | hz
    · exact hz
    · rw [pk_sub (by omega)] at h
      exact absurd h (nI_pos (by omega))
  · intro h
    rw [h]
    decide
theorem m1_ge {u : Nat} (hu : u < 65536) : 0 ≤ nI u - nI 1 ↔ u ≠ 0 := by
  constructor
  · intro h hz
    rw [hz] at h
    exact absurd h (by decide)
  · intro h
    rw [pk_sub (by omega)]
    exact Int32.not_lt.mp (nI_pos (by omega))
theorem plB_h {F : Nat → Nat} {r : Nat} (h : plB F r = true) : 0 < F 86 := by
  unfold plB at h
  rw [decide_eq_true_eq] at h
  exact h.2.1
def bmL (pl : Nat → Bool) (D : Nat → Nat) : Nat → Option Nat × Nat
  | 0 => (none, 1000)
  | r + 1 => if pl r = true then (if D r < (bmL pl D r).2 then (some r, D r) else bmL pl D r) else bmL pl D r

theorem iw_X10_distanceFrom_X10 : ∀ w ∈ wsX100, w ∈ wsX10_distanceFrom := fun _ h => List.mem_cons_of_mem _ (List.mem_append_right _ h)
theorem lk_X10_distanceFrom_47 : Cond.fieldLink RX10 47 (TX10 16).1 (TX10 16).2.1 (TX10 16).2.2.1 ∈ wsX10_distanceFrom := List.mem_of_getElem? (i := 1) rfl
theorem lk_X10_distanceFrom_44 : Cond.fieldLink RX10 44 (TX10 15).1 (TX10 15).2.1 (TX10 15).2.2.1 ∈ wsX10_distanceFrom := List.mem_of_getElem? (i := 4) rfl
theorem lk_X10_distanceFrom_7 : Cond.fieldLink RX10 7 (TX10 0).1 (TX10 0).2.1 (TX10 0).2.2.1 ∈ wsX10_distanceFrom := List.mem_of_getElem? (i := 2) rfl
theorem hd_X10_goes : yX10_goes.cls ≠ "java/lang/invoke/MethodHandle" ∧ yX10_goes.cls ≠ "java/lang/invoke/VarHandle" ∧ (parseMethodDescriptor yX10_goes.desc).map (fun d => d.parameters.length) = some 2 := by decide +kernel
theorem hd_X10_isPlayableAt : yX10_isPlayableAt.cls ≠ "java/lang/invoke/MethodHandle" ∧ yX10_isPlayableAt.cls ≠ "java/lang/invoke/VarHandle" ∧ (parseMethodDescriptor yX10_isPlayableAt.desc).map (fun d => d.parameters.length) = some 2 := by decide +kernel
theorem lk_X10_distanceFrom_35 : Cond.fieldLink RX10 35 (TX10 12).1 (TX10 12).2.1 (TX10 12).2.2.1 ∈ wsX10_distanceFrom := List.mem_of_getElem? (i := 3) rfl
set_option maxHeartbeats 4000000 in
set_option maxRecDepth 100000 in
theorem c_X10_distanceFrom (h F Q ft B Bt a1 a2 a3 a4 a5 : Nat → Nat) (fr : Nat → Int32) (W M : Nat → Int64) (km le sp ro : Nat) (fi mv nn : Nat) (o : Nat × DT) (hFb : ∀ i, F i < 65536) (hn : F 4 ≤ 16) (hfi : fi < 9) (hmv : mv < 9) (hq0 : dRun F fi mv nn fi 0 a1 a2 a3 a4 a5 o) : Ct l yX10_distanceFrom wsX10_distanceFrom (rmD (2)) D [(cI, .int), (cC, .char), (cJ, .long), (cG, .object "PushdownGameSolver$Game")] [.ref ((h 0)), .int (nI fi), .int (nI mv)] [((h 0), .inr (6, [.ref ((h 1)), .ref ((h 2)), .ref ((h 3)), .int (nI km), .ref ((h 4)), .int (nI le), .int (nI sp), .ref ((h 5)), .ref ((h 6)), .int (nI ro), .ref ((h 7)), .ref ((h 8)), .ref ((h 9)), .ref ((h 10)), .ref ((h 11)), .ref ((h 12)), .ref ((h 13))])), ((h 1), .inl (cI, 99, .inl (sA F))), ((h 2), .inl (cI, 99, .inl fr)), ((h 3), .inl (cI, 594, .inl (kA Q))), ((h 4), .inl (cI, 200, .inl (fun zz => nI (ft zz)))), ((h 5), .inl (cI, 12, .inl (fun zz => nI (B zz)))), ((h 6), .inl (cI, 12, .inl (fun zz => nI (Bt zz)))), ((h 7), .inl (cJ, 16, .inr (.inl W))), ((h 8), .inl (cJ, 16, .inr (.inl M))), ((h 9), .inl (cI, 9, .inl (fun zz => nI (a1 zz)))), ((h 10), .inl (cI, 9, .inl (fun zz => nI (a2 zz)))), ((h 11), .inl (cI, 198, .inl (fun zz => nI (a3 zz)))), ((h 12), .inl (cI, 9, .inl (fun zz => nI (a4 zz)))), ((h 13), .inl (cI, 9, .inl (fA a5)))] (S := Unit) (fun _ => True) (fun _ => some (.int (nI o.1 - nI 1))) (fun _ => [((h 0), .inr (6, [.ref ((h 1)), .ref ((h 2)), .ref ((h 3)), .int (nI km), .ref ((h 4)), .int (nI le), .int (nI sp), .ref ((h 5)), .ref ((h 6)), .int (nI ro), .ref ((h 7)), .ref ((h 8)), .ref ((h 9)), .ref ((h 10)), .ref ((h 11)), .ref ((h 12)), .ref ((h 13))])), ((h 1), .inl (cI, 99, .inl (sA F))), ((h 2), .inl (cI, 99, .inl fr)), ((h 3), .inl (cI, 594, .inl (kA Q))), ((h 4), .inl (cI, 200, .inl (fun zz => nI (ft zz)))), ((h 5), .inl (cI, 12, .inl (fun zz => nI (B zz)))), ((h 6), .inl (cI, 12, .inl (fun zz => nI (Bt zz)))), ((h 7), .inl (cJ, 16, .inr (.inl W))), ((h 8), .inl (cJ, 16, .inr (.inl M))), ((h 9), .inl (cI, 9, .inl (fun zz => nI (o.2.1 zz)))), ((h 10), .inl (cI, 9, .inl (fun zz => nI (o.2.2.1 zz)))), ((h 11), .inl (cI, 198, .inl (fun zz => nI (o.2.2.2.1 zz)))), ((h 12), .inl (cI, 9, .inl (fun zz => nI (o.2.2.2.2.1 zz)))), ((h 13), .inl (cI, 9, .inl (fA o.2.2.2.2.2)))]) := by
  refine Ct.of (lv := [(0, .ref ((h 0))), (1, .int (nI fi)), (2, .int (nI mv))]) (by decide) rfl (Nat.le_of_ble_eq_true rfl) rfl ?_
  intro ε hL EE FF
  have hf2 := hFb 2
  have hf3 := hFb 3
  have Lp_5 : ∀ (nf : Nat), ∀ (n v res : Nat) (a1 a2 a3 a4 a5 : Nat → Nat), n < nf → (dRun F fi mv n v res a1 a2 a3 a4 a5 o) → (res ≤ 1001) → (v < 9) → J l (rmD (2)) D ε [((h 0), .inr (6, [.ref ((h 1)), .ref ((h 2)), .ref ((h 3)), .int (nI km), .ref ((h 4)), .int (nI le), .int (nI sp), .ref ((h 5)), .ref ((h 6)), .int (nI ro), .ref ((h 7)), .ref ((h 8)), .ref ((h 9)), .ref ((h 10)), .ref ((h 11)), .ref ((h 12)), .ref ((h 13))])), ((h 1), .inl (cI, 99, .inl (sA F))), ((h 2), .inl (cI, 99, .inl fr)), ((h 3), .inl (cI, 594, .inl (kA Q))), ((h 4), .inl (cI, 200, .inl (fun zz => nI (ft zz)))), ((h 5), .inl (cI, 12, .inl (fun zz => nI (B zz)))), ((h 6), .inl (cI, 12, .inl (fun zz => nI (Bt zz)))), ((h 7), .inl (cJ, 16, .inr (.inl W))), ((h 8), .inl (cJ, 16, .inr (.inl M))), ((h 9), .inl (cI, 9, .inl (fun zz => nI (a1 zz)))), ((h 10), .inl (cI, 9, .inl (fun zz => nI (a2 zz)))), ((h 11), .inl (cI, 198, .inl (fun zz => nI (a3 zz)))), ((h 12), .inl (cI, 9, .inl (fun zz => nI (a4 zz)))), ((h 13), .inl (cI, 9, .inl (fA a5)))] 5 [(3, .int (nI v)), (4, .int (nI res - nI 1)), (0, .ref ((h 0))), (1, .int (nI fi)), (2, .int (nI mv))] [] := by
    intro nf
    induction nf with
    | zero => intro n v res a1 a2 a3 a4 a5 hm; exact absurd hm (Nat.not_lt_zero _)
    | succ nf ihp_5 =>
      intro n v res a1 a2 a3 a4 a5 hm5 hq hre hv9
      have Lp_114 : (res = 0) → J l (rmD (2)) D ε [((h 0), .inr (6, [.ref ((h 1)), .ref ((h 2)), .ref ((h 3)), .int (nI km), .ref ((h 4)), .int (nI le), .int (nI sp), .ref ((h 5)), .ref ((h 6)), .int (nI ro), .ref ((h 7)), .ref ((h 8)), .ref ((h 9)), .ref ((h 10)), .ref ((h 11)), .ref ((h 12)), .ref ((h 13))])), ((h 1), .inl (cI, 99, .inl (sA F))), ((h 2), .inl (cI, 99, .inl fr)), ((h 3), .inl (cI, 594, .inl (kA Q))), ((h 4), .inl (cI, 200, .inl (fun zz => nI (ft zz)))), ((h 5), .inl (cI, 12, .inl (fun zz => nI (B zz)))), ((h 6), .inl (cI, 12, .inl (fun zz => nI (Bt zz)))), ((h 7), .inl (cJ, 16, .inr (.inl W))), ((h 8), .inl (cJ, 16, .inr (.inl M))), ((h 9), .inl (cI, 9, .inl (fun zz => nI (a1 zz)))), ((h 10), .inl (cI, 9, .inl (fun zz => nI (a2 zz)))), ((h 11), .inl (cI, 198, .inl (fun zz => nI (a3 zz)))), ((h 12), .inl (cI, 9, .inl (fun zz => nI (a4 zz)))), ((h 13), .inl (cI, 9, .inl (fA a5)))] 114 [(3, .int (nI v)), (4, .int (nI 0 - nI 1)), (0, .ref ((h 0))), (1, .int (nI fi)), (2, .int (nI mv))] [] := by
        intro  h0
        obtain ⟨n1, hn1, ⟨q1, q2, -, q4, hb1, hb3, q7, q8, q9⟩, kt, kf⟩ := dRun_dn hq h0
        have Lp_138 : ∀ (nf : Nat), ∀ (r : Nat), 17 - r < nf → (a4 v ≤ r) → (r ≤ F 4) → (∀ i, a4 v ≤ i → i < r → ¬ plA F a1 a2 a3 v i) → (¬ bt (F 3) (a1 v) = 1) → J l (rmD (2)) D ε [((h 0), .inr (6, [.ref ((h 1)), .ref ((h 2)), .ref ((h 3)), .int (nI km), .ref ((h 4)), .int (nI le), .int (nI sp), .ref ((h 5)), .ref ((h 6)), .int (nI ro), .ref ((h 7)), .ref ((h 8)), .ref ((h 9)), .ref ((h 10)), .ref ((h 11)), .ref ((h 12)), .ref ((h 13))])), ((h 1), .inl (cI, 99, .inl (sA F))), ((h 2), .inl (cI, 99, .inl fr)), ((h 3), .inl (cI, 594, .inl (kA Q))), ((h 4), .inl (cI, 200, .inl (fun zz => nI (ft zz)))), ((h 5), .inl (cI, 12, .inl (fun zz => nI (B zz)))), ((h 6), .inl (cI, 12, .inl (fun zz => nI (Bt zz)))), ((h 7), .inl (cJ, 16, .inr (.inl W))), ((h 8), .inl (cJ, 16, .inr (.inl M))), ((h 9), .inl (cI, 9, .inl (fun zz => nI (a1 zz)))), ((h 10), .inl (cI, 9, .inl (fun zz => nI (a2 zz)))), ((h 11), .inl (cI, 198, .inl (fun zz => nI (a3 zz)))), ((h 12), .inl (cI, 9, .inl (fun zz => nI ((updN a4 v r) zz)))), ((h 13), .inl (cI, 9, .inl (fA a5)))] 138 [(3, .int (nI v)), (4, .int (nI 0 - nI 1)), (0, .ref ((h 0))), (1, .int (nI fi)), (2, .int (nI mv))] [] := by
          intro nf
          induction nf with
          | zero => intro r hm; exact absurd hm (Nat.not_lt_zero _)
          | succ nf ihp_138 =>
            intro r hm138 hr1 hr2 hr3 htg
            have Lp_180 : (r < F 4 → plA F a1 a2 a3 v r) → J l (rmD (2)) D ε [((h 0), .inr (6, [.ref ((h 1)), .ref ((h 2)), .ref ((h 3)), .int (nI km), .ref ((h 4)), .int (nI le), .int (nI sp), .ref ((h 5)), .ref ((h 6)), .int (nI ro), .ref ((h 7)), .ref ((h 8)), .ref ((h 9)), .ref ((h 10)), .ref ((h 11)), .ref ((h 12)), .ref ((h 13))])), ((h 1), .inl (cI, 99, .inl (sA F))), ((h 2), .inl (cI, 99, .inl fr)), ((h 3), .inl (cI, 594, .inl (kA Q))), ((h 4), .inl (cI, 200, .inl (fun zz => nI (ft zz)))), ((h 5), .inl (cI, 12, .inl (fun zz => nI (B zz)))), ((h 6), .inl (cI, 12, .inl (fun zz => nI (Bt zz)))), ((h 7), .inl (cJ, 16, .inr (.inl W))), ((h 8), .inl (cJ, 16, .inr (.inl M))), ((h 9), .inl (cI, 9, .inl (fun zz => nI (a1 zz)))), ((h 10), .inl (cI, 9, .inl (fun zz => nI (a2 zz)))), ((h 11), .inl (cI, 198, .inl (fun zz => nI (a3 zz)))), ((h 12), .inl (cI, 9, .inl (fun zz => nI ((updN a4 v r) zz)))), ((h 13), .inl (cI, 9, .inl (fA a5)))] 180 [(3, .int (nI v)), (4, .int (nI 0 - nI 1)), (0, .ref ((h 0))), (1, .int (nI fi)), (2, .int (nI mv))] [] := by
              intro  hpl
              have Lp_202 : (v = fi + mv ∨ r = F 4) → J l (rmD (2)) D ε [((h 0), .inr (6, [.ref ((h 1)), .ref ((h 2)), .ref ((h 3)), .int (nI km), .ref ((h 4)), .int (nI le), .int (nI sp), .ref ((h 5)), .ref ((h 6)), .int (nI ro), .ref ((h 7)), .ref ((h 8)), .ref ((h 9)), .ref ((h 10)), .ref ((h 11)), .ref ((h 12)), .ref ((h 13))])), ((h 1), .inl (cI, 99, .inl (sA F))), ((h 2), .inl (cI, 99, .inl fr)), ((h 3), .inl (cI, 594, .inl (kA Q))), ((h 4), .inl (cI, 200, .inl (fun zz => nI (ft zz)))), ((h 5), .inl (cI, 12, .inl (fun zz => nI (B zz)))), ((h 6), .inl (cI, 12, .inl (fun zz => nI (Bt zz)))), ((h 7), .inl (cJ, 16, .inr (.inl W))), ((h 8), .inl (cJ, 16, .inr (.inl M))), ((h 9), .inl (cI, 9, .inl (fun zz => nI (a1 zz)))), ((h 10), .inl (cI, 9, .inl (fun zz => nI (a2 zz)))), ((h 11), .inl (cI, 198, .inl (fun zz => nI (a3 zz)))), ((h 12), .inl (cI, 9, .inl (fun zz => nI ((updN a4 v r) zz)))), ((h 13), .inl (cI, 9, .inl (fA a5)))] 202 [(3, .int (nI v)), (4, .int (nI 0 - nI 1)), (0, .ref ((h 0))), (1, .int (nI fi)), (2, .int (nI mv))] [] := by
                intro  hen
                refine j_aload_n EE 2 dX10_distanceFrom_202 rfl rfl ?_
                refine j_get (T := TX10) EE iw_X10_distanceFrom_X10 0 rfl rfl 16 (by decide) lk_X10_distanceFrom_47 rfl dX10_distanceFrom_203 ?_
                refine j_iload_n EE 0 dX10_distanceFrom_206 rfl rfl ?_
                refine j_iald EE 13 0 rfl rfl (vp_in_nI (n := v) (by omega) (by decide)) dX10_distanceFrom_207 ?_
                refine j_topE (congrArg (fA a5) (nI_clamp (n := v) (by omega))) ?_
                refine j_topE (y := nI (a5 v) - nI 1) rfl ?_
                refine j_if_ge EE 217 dX10_distanceFrom_208 (by decide) (fun c208 => ?_) (fun c208 => ?_)
                · skip
                  have m208 := (m1_ge (by omega)).mp c208
                  refine j_aload_n EE 2 dX10_distanceFrom_217 rfl rfl ?_
                  refine j_get (T := TX10) EE iw_X10_distanceFrom_X10 0 rfl rfl 16 (by decide) lk_X10_distanceFrom_47 rfl dX10_distanceFrom_218 ?_
                  refine j_iload_n EE 0 dX10_distanceFrom_221 rfl rfl ?_
                  refine j_iald EE 13 0 rfl rfl (vp_in_nI (n := v) (by omega) (by decide)) dX10_distanceFrom_222 ?_
                  refine j_topE (congrArg (fA a5) (nI_clamp (n := v) (by omega))) ?_
                  refine j_topE (y := nI (a5 v) - nI 1) rfl ?_
                  refine j_topE (y := nI (if a5 v = 0 then 1001 else a5 v) - nI 1) (by rw [if_neg m208]) ?_
                  refine j_istore EE [(4, _), (3, _), (0, _), (1, _), (2, _)] dX10_distanceFrom_223 (Nat.lt_of_lt_of_eq (by decide) hL.symm) rfl ?_
                  refine j_goto EE 5 dX10_distanceFrom_225 (by decide) ?_
                  refine j_lv [1, 0, 2, 3, 4] rfl ?_
                  exact ihp_5 n1 v (if a5 v = 0 then 1001 else a5 v) a1 a2 a3 (updN a4 v r) a5 (by omega) ((kf (by omega) r hr1 hr2 hr3 hpl).1 hen) (by split <;> omega) (by omega)
                · skip
                  have m208 : a5 v = 0 := by
                    rcases Nat.eq_zero_or_pos (a5 v) with hz | hz
                    · exact hz
                    · exact absurd ((m1_ge (by omega)).mpr (by omega)) c208
                  refine j_sipush (v := nI 1000) EE dX10_distanceFrom_211 (by decide) ?_
                  refine j_goto EE 223 dX10_distanceFrom_214 (by decide) ?_
                  refine j_topE (y := nI (if a5 v = 0 then 1001 else a5 v) - nI 1) (by rw [if_pos m208]; decide) ?_
                  refine j_istore EE [(4, _), (3, _), (0, _), (1, _), (2, _)] dX10_distanceFrom_223 (Nat.lt_of_lt_of_eq (by decide) hL.symm) rfl ?_
                  refine j_goto EE 5 dX10_distanceFrom_225 (by decide) ?_
                  refine j_lv [1, 0, 2, 3, 4] rfl ?_
                  exact ihp_5 n1 v (if a5 v = 0 then 1001 else a5 v) a1 a2 a3 (updN a4 v r) a5 (by omega) ((kf (by omega) r hr1 hr2 hr3 hpl).1 hen) (by split <;> omega) (by omega)
              refine j_iload_n EE 0 dX10_distanceFrom_180 rfl rfl ?_
              refine j_iload_n EE 3 dX10_distanceFrom_181 rfl rfl ?_
              refine j_iload_n EE 4 dX10_distanceFrom_182 rfl rfl ?_
              refine j_iadd EE dX10_distanceFrom_183 ?_
              refine j_topE (nI_add fi mv) ?_
              refine j_icmp_eq EE 202 dX10_distanceFrom_184 (by decide) (fun c184 => ?_) (fun c184 => ?_)
              · skip
                have n184 : v = (fi + mv) := (nI_eq (a := v) (b := (fi + mv)) (by omega) (by omega)).mp c184
                exact Lp_202 (by first | exact Or.inl n184 | exact Or.inr (by omega))
              · skip
                have n184 : v ≠ (fi + mv) := fun hq => c184 ((nI_eq (a := v) (b := (fi + mv)) (by omega) (by omega)).mpr hq)
                refine j_aload_n EE 2 dX10_distanceFrom_187 rfl rfl ?_
                refine j_get (T := TX10) EE iw_X10_distanceFrom_X10 0 rfl rfl 15 (by decide) lk_X10_distanceFrom_44 rfl dX10_distanceFrom_188 ?_
                refine j_iload_n EE 0 dX10_distanceFrom_191 rfl rfl ?_
                refine j_iald EE 12 0 rfl rfl (vp_in_nI (n := v) (by omega) (by decide)) dX10_distanceFrom_192 ?_
                refine j_topE (congrArg (fun zz => nI ((updN a4 v r) zz)) (nI_clamp (n := v) (by omega))) ?_
                refine j_topE (y := nI r) (congrArg nI (updN_s _ _ _)) ?_
                refine j_aload_n EE 2 dX10_distanceFrom_193 rfl rfl ?_
                refine j_get (T := TX10) EE iw_X10_distanceFrom_X10 0 rfl rfl 0 (by decide) lk_X10_distanceFrom_7 rfl dX10_distanceFrom_194 ?_
                refine j_iconst (v := nI 4) EE dX10_distanceFrom_197 (by decide) ?_
                refine j_iald EE 1 0 rfl rfl (vp_in_nI (n := 4) (by omega) (by decide)) dX10_distanceFrom_198 ?_
                refine j_topE (congrArg (sA F) (nI_clamp (n := 4) (by omega))) ?_
                refine j_topE (y := nI (F 4)) (sA_n (by omega)) ?_
                refine j_icmp_ne EE 228 dX10_distanceFrom_199 (by decide) (fun c199 => ?_) (fun c199 => ?_)
                · skip
                  have n199 : r ≠ (F 4) := fun hq => c199 ((nI_eq (a := r) (b := (F 4)) (by have := hFb 4; omega) (by have := hFb 4; omega)).mpr hq)
                  have kg := (kf (by omega) r hr1 hr2 hr3 hpl).2 (by omega)
                  have hplr := hpl (by omega)
                  have hp1 := hplr.1
                  refine j_aload_n EE 2 dX10_distanceFrom_228 rfl rfl ?_
                  refine j_get (T := TX10) EE iw_X10_distanceFrom_X10 0 rfl rfl 15 (by decide) lk_X10_distanceFrom_44 rfl dX10_distanceFrom_229 ?_
                  refine j_iload_n EE 0 dX10_distanceFrom_232 rfl rfl ?_
                  refine j_dup2 EE rfl rfl dX10_distanceFrom_233 ?_
                  refine j_iald EE 12 0 rfl rfl (vp_in_nI (n := v) (by omega) (by decide)) dX10_distanceFrom_234 ?_
                  refine j_topE (congrArg (fun zz => nI ((updN a4 v r) zz)) (nI_clamp (n := v) (by omega))) ?_
                  refine j_topE (y := nI r) (congrArg nI (updN_s _ _ _)) ?_
                  refine j_iconst (v := nI 1) EE dX10_distanceFrom_235 (by decide) ?_
                  refine j_iadd EE dX10_distanceFrom_236 ?_
                  refine j_topE (nI_add r 1) ?_
                  refine j_iast (ws' := [((h 0), .inr (6, [.ref ((h 1)), .ref ((h 2)), .ref ((h 3)), .int (nI km), .ref ((h 4)), .int (nI le), .int (nI sp), .ref ((h 5)), .ref ((h 6)), .int (nI ro), .ref ((h 7)), .ref ((h 8)), .ref ((h 9)), .ref ((h 10)), .ref ((h 11)), .ref ((h 12)), .ref ((h 13))])), ((h 1), .inl (cI, 99, .inl (sA F))), ((h 2), .inl (cI, 99, .inl fr)), ((h 3), .inl (cI, 594, .inl (kA Q))), ((h 4), .inl (cI, 200, .inl (fun zz => nI (ft zz)))), ((h 5), .inl (cI, 12, .inl (fun zz => nI (B zz)))), ((h 6), .inl (cI, 12, .inl (fun zz => nI (Bt zz)))), ((h 7), .inl (cJ, 16, .inr (.inl W))), ((h 8), .inl (cJ, 16, .inr (.inl M))), ((h 9), .inl (cI, 9, .inl (fun zz => nI (a1 zz)))), ((h 10), .inl (cI, 9, .inl (fun zz => nI (a2 zz)))), ((h 11), .inl (cI, 198, .inl (fun zz => nI (a3 zz)))), ((h 12), .inl (cI, 9, .inl (fun zz => nI ((updN a4 v (r + 1)) zz)))), ((h 13), .inl (cI, 9, .inl (fA a5)))]) EE 12 0 rfl rfl (vp_in_nI (n := v) (by omega) (by decide)) (by rw [nI_clamp (by omega), upd_N, updN_2]; rfl) dX10_distanceFrom_237 ?_
                  refine j_aload_n EE 2 dX10_distanceFrom_238 rfl rfl ?_
                  refine j_iload_n EE 0 dX10_distanceFrom_239 rfl rfl ?_
                  refine j_aload_n EE 2 dX10_distanceFrom_240 rfl rfl ?_
                  refine j_get (T := TX10) EE iw_X10_distanceFrom_X10 0 rfl rfl 15 (by decide) lk_X10_distanceFrom_44 rfl dX10_distanceFrom_241 ?_
                  refine j_iload_n EE 0 dX10_distanceFrom_244 rfl rfl ?_
                  refine j_iald EE 12 0 rfl rfl (vp_in_nI (n := v) (by omega) (by decide)) dX10_distanceFrom_245 ?_
                  refine j_topE (congrArg (fun zz => nI ((updN a4 v (r + 1)) zz)) (nI_clamp (n := v) (by omega))) ?_
                  refine j_topE (y := nI (r + 1)) (congrArg nI (updN_s _ _ _)) ?_
                  refine j_iconst (v := nI 1) EE dX10_distanceFrom_246 (by decide) ?_
                  refine j_isub EE dX10_distanceFrom_247 ?_
                  refine j_topE (y := nI r) (pk_sub (a := r + 1) (b := 1) (by omega)) ?_
                  refine j_V2 (n9 := 14) EE (c_X10_goes h F Q ft B Bt a1 a2 a3 (updN a4 v (r + 1)) a5 fr W M km le sp ro v r hFb (by omega) (by omega) (by omega) (by omega)) gX10_distanceFrom_X10_goes ⟨rfl, hd_X10_goes⟩ rfl ⟨rfl, rfl⟩ ⟨by decide, by decide⟩ rfl [0, 1, 2, 3, 4, 5, 6, 7, 8, 9, 10, 11, 12, 13] rfl [] [((h 0), .inr (6, [.ref ((h 1)), .ref ((h 2)), .ref ((h 3)), .int (nI km), .ref ((h 4)), .int (nI le), .int (nI sp), .ref ((h 5)), .ref ((h 6)), .int (nI ro), .ref ((h 7)), .ref ((h 8)), .ref ((h 9)), .ref ((h 10)), .ref ((h 11)), .ref ((h 12)), .ref ((h 13))])), ((h 1), .inl (cI, 99, .inl (sA F))), ((h 2), .inl (cI, 99, .inl fr)), ((h 3), .inl (cI, 594, .inl (kA Q))), ((h 4), .inl (cI, 200, .inl (fun zz => nI (ft zz)))), ((h 5), .inl (cI, 12, .inl (fun zz => nI (B zz)))), ((h 6), .inl (cI, 12, .inl (fun zz => nI (Bt zz)))), ((h 7), .inl (cJ, 16, .inr (.inl W))), ((h 8), .inl (cJ, 16, .inr (.inl M))), ((h 9), .inl (cI, 9, .inl (fun zz => nI ((updN a1 (v + 1) (F (5 + 5 * r + 2))) zz)))), ((h 10), .inl (cI, 9, .inl (fun zz => nI ((updN a2 (v + 1) (goH F a2 v r)) zz)))), ((h 11), .inl (cI, 198, .inl (fun zz => nI ((goP F a2 a3 v r) zz)))), ((h 12), .inl (cI, 9, .inl (fun zz => nI ((updN (updN a4 v (r + 1)) (v + 1) 0) zz)))), ((h 13), .inl (cI, 9, .inl (fA (updN a5 (v + 1) 0))))] (fun _ => rfl) [] [(h 0), (h 1), (h 2), (h 3), (h 4), (h 5), (h 6), (h 7), (h 8), (h 9), (h 10), (h 11), (h 12), (h 13)] rfl rfl rfl rfl rfl (by decide) (by decide) 0 rfl rfl rfl (Nat.le_of_ble_eq_true rfl) dX10_distanceFrom_248 (fun u_248 h_248 => ?_) rfl
                  refine j_iinc (v := nI (v + 1)) EE 0 [(3, .int (nI (v + 1))), (4, _), (0, _), (1, _), (2, _)] dX10_distanceFrom_251 rfl (nI_1 v) (Nat.lt_of_lt_of_eq (by decide) hL.symm) rfl ?_
                  refine j_goto EE 5 dX10_distanceFrom_254 (by decide) ?_
                  exact ihp_5 n1 (v + 1) 0 (updN a1 (v + 1) (F (5 + 5 * r + 2))) (updN a2 (v + 1) (goH F a2 v r)) (goP F a2 a3 v r) (updN (updN a4 v (r + 1)) (v + 1) 0) (updN a5 (v + 1) 0) (by omega) kg.2 (by omega) (by omega)
                · skip
                  have n199 : r = (F 4) := (nI_eq (a := r) (b := (F 4)) (by have := hFb 4; omega) (by have := hFb 4; omega)).mp c199
                  exact Lp_202 (by first | exact Or.inl n184 | exact Or.inr (by omega))
            refine j_aload_n EE 2 dX10_distanceFrom_138 rfl rfl ?_
            refine j_get (T := TX10) EE iw_X10_distanceFrom_X10 0 rfl rfl 15 (by decide) lk_X10_distanceFrom_44 rfl dX10_distanceFrom_139 ?_
            refine j_iload_n EE 0 dX10_distanceFrom_142 rfl rfl ?_
            refine j_iald EE 12 0 rfl rfl (vp_in_nI (n := v) (by omega) (by decide)) dX10_distanceFrom_143 ?_
            refine j_topE (congrArg (fun zz => nI ((updN a4 v r) zz)) (nI_clamp (n := v) (by omega))) ?_
            refine j_topE (y := nI r) (congrArg nI (updN_s _ _ _)) ?_
            refine j_aload_n EE 2 dX10_distanceFrom_144 rfl rfl ?_
            refine j_get (T := TX10) EE iw_X10_distanceFrom_X10 0 rfl rfl 0 (by decide) lk_X10_distanceFrom_7 rfl dX10_distanceFrom_145 ?_
            refine j_iconst (v := nI 4) EE dX10_distanceFrom_148 (by decide) ?_
            refine j_iald EE 1 0 rfl rfl (vp_in_nI (n := 4) (by omega) (by decide)) dX10_distanceFrom_149 ?_
            refine j_topE (congrArg (sA F) (nI_clamp (n := 4) (by omega))) ?_
            refine j_topE (y := nI (F 4)) (sA_n (by omega)) ?_
            refine j_icmp_ge EE 180 dX10_distanceFrom_150 (by decide) (fun c150 => ?_) (fun c150 => ?_)
            · skip
              have n150 : (F 4) ≤ r := (nI_leI (a := (F 4)) (b := r) (by have := hFb 4; omega) (by have := hFb 4; omega)).mp c150
              exact Lp_180 (by first | exact (fun _ => b2d_1 n164) | exact (fun z => absurd z (by omega)))
            · skip
              have n150 : ¬ (F 4) ≤ r := fun hq => c150 ((nI_leI (a := (F 4)) (b := r) (by have := hFb 4; omega) (by have := hFb 4; omega)).mpr hq)
              refine j_aload_n EE 2 dX10_distanceFrom_153 rfl rfl ?_
              refine j_iload_n EE 0 dX10_distanceFrom_154 rfl rfl ?_
              refine j_aload_n EE 2 dX10_distanceFrom_155 rfl rfl ?_
              refine j_get (T := TX10) EE iw_X10_distanceFrom_X10 0 rfl rfl 15 (by decide) lk_X10_distanceFrom_44 rfl dX10_distanceFrom_156 ?_
              refine j_iload_n EE 0 dX10_distanceFrom_159 rfl rfl ?_
              refine j_iald EE 12 0 rfl rfl (vp_in_nI (n := v) (by omega) (by decide)) dX10_distanceFrom_160 ?_
              refine j_topE (congrArg (fun zz => nI ((updN a4 v r) zz)) (nI_clamp (n := v) (by omega))) ?_
              refine j_topE (y := nI r) (congrArg nI (updN_s _ _ _)) ?_
              refine j_V2 (n9 := 14) EE (c_X10_isPlayableAt h F Q ft B Bt a1 a2 a3 (updN a4 v r) a5 fr W M km le sp ro v r hFb hb1 hb3 (by omega) (by omega) (by omega)) gX10_distanceFrom_X10_isPlayableAt ⟨rfl, hd_X10_isPlayableAt⟩ rfl ⟨rfl, rfl⟩ ⟨by decide, by decide⟩ rfl [0, 1, 2, 3, 4, 5, 6, 7, 8, 9, 10, 11, 12, 13] rfl [] [((h 0), .inr (6, [.ref ((h 1)), .ref ((h 2)), .ref ((h 3)), .int (nI km), .ref ((h 4)), .int (nI le), .int (nI sp), .ref ((h 5)), .ref ((h 6)), .int (nI ro), .ref ((h 7)), .ref ((h 8)), .ref ((h 9)), .ref ((h 10)), .ref ((h 11)), .ref ((h 12)), .ref ((h 13))])), ((h 1), .inl (cI, 99, .inl (sA F))), ((h 2), .inl (cI, 99, .inl fr)), ((h 3), .inl (cI, 594, .inl (kA Q))), ((h 4), .inl (cI, 200, .inl (fun zz => nI (ft zz)))), ((h 5), .inl (cI, 12, .inl (fun zz => nI (B zz)))), ((h 6), .inl (cI, 12, .inl (fun zz => nI (Bt zz)))), ((h 7), .inl (cJ, 16, .inr (.inl W))), ((h 8), .inl (cJ, 16, .inr (.inl M))), ((h 9), .inl (cI, 9, .inl (fun zz => nI (a1 zz)))), ((h 10), .inl (cI, 9, .inl (fun zz => nI (a2 zz)))), ((h 11), .inl (cI, 198, .inl (fun zz => nI (a3 zz)))), ((h 12), .inl (cI, 9, .inl (fun zz => nI ((updN a4 v r) zz)))), ((h 13), .inl (cI, 9, .inl (fA a5)))] (fun _ => rfl) [] [(h 0), (h 1), (h 2), (h 3), (h 4), (h 5), (h 6), (h 7), (h 8), (h 9), (h 10), (h 11), (h 12), (h 13)] rfl rfl rfl rfl rfl (by decide) (by decide) 0 rfl rfl rfl (Nat.le_of_ble_eq_true rfl) dX10_distanceFrom_161 (fun u_161 h_161 => ?_) rfl
              show J l _ D ε _ _ _ (.int (nI (b2n (decide (0 < a2 v ∧ F (5 + 5 * r) = a1 v ∧ F (5 + 5 * r + 1) = a3 (22 * v + a2 v - 1))))) :: _)
              refine j_if_ne EE 180 dX10_distanceFrom_164 (by decide) (fun c164 => ?_) (fun c164 => ?_)
              · skip
                have n164 : (b2n (decide (0 < a2 v ∧ F (5 + 5 * r) = a1 v ∧ F (5 + 5 * r + 1) = a3 (22 * v + a2 v - 1)))) ≠ 0 := fun hq => c164 ((nI_eq (a := (b2n (decide (0 < a2 v ∧ F (5 + 5 * r) = a1 v ∧ F (5 + 5 * r + 1) = a3 (22 * v + a2 v - 1))))) (b := 0) (by have := b2n_lt (decide (0 < a2 v ∧ F (5 + 5 * r) = a1 v ∧ F (5 + 5 * r + 1) = a3 (22 * v + a2 v - 1))); omega) (by have := b2n_lt (decide (0 < a2 v ∧ F (5 + 5 * r) = a1 v ∧ F (5 + 5 * r + 1) = a3 (22 * v + a2 v - 1))); omega)).mpr hq)
                exact Lp_180 (by first | exact (fun _ => b2d_1 n164) | exact (fun z => absurd z (by omega)))
              · skip
                have n164 : (b2n (decide (0 < a2 v ∧ F (5 + 5 * r) = a1 v ∧ F (5 + 5 * r + 1) = a3 (22 * v + a2 v - 1)))) = 0 := (nI_eq (a := (b2n (decide (0 < a2 v ∧ F (5 + 5 * r) = a1 v ∧ F (5 + 5 * r + 1) = a3 (22 * v + a2 v - 1))))) (b := 0) (by have := b2n_lt (decide (0 < a2 v ∧ F (5 + 5 * r) = a1 v ∧ F (5 + 5 * r + 1) = a3 (22 * v + a2 v - 1))); omega) (by have := b2n_lt (decide (0 < a2 v ∧ F (5 + 5 * r) = a1 v ∧ F (5 + 5 * r + 1) = a3 (22 * v + a2 v - 1))); omega)).mp c164
                refine j_aload_n EE 2 dX10_distanceFrom_167 rfl rfl ?_
                refine j_get (T := TX10) EE iw_X10_distanceFrom_X10 0 rfl rfl 15 (by decide) lk_X10_distanceFrom_44 rfl dX10_distanceFrom_168 ?_
                refine j_iload_n EE 0 dX10_distanceFrom_171 rfl rfl ?_
                refine j_dup2 EE rfl rfl dX10_distanceFrom_172 ?_
                refine j_iald EE 12 0 rfl rfl (vp_in_nI (n := v) (by omega) (by decide)) dX10_distanceFrom_173 ?_
                refine j_topE (congrArg (fun zz => nI ((updN a4 v r) zz)) (nI_clamp (n := v) (by omega))) ?_
                refine j_topE (y := nI r) (congrArg nI (updN_s _ _ _)) ?_
                refine j_iconst (v := nI 1) EE dX10_distanceFrom_174 (by decide) ?_
                refine j_iadd EE dX10_distanceFrom_175 ?_
                refine j_topE (nI_add r 1) ?_
                refine j_iast (ws' := [((h 0), .inr (6, [.ref ((h 1)), .ref ((h 2)), .ref ((h 3)), .int (nI km), .ref ((h 4)), .int (nI le), .int (nI sp), .ref ((h 5)), .ref ((h 6)), .int (nI ro), .ref ((h 7)), .ref ((h 8)), .ref ((h 9)), .ref ((h 10)), .ref ((h 11)), .ref ((h 12)), .ref ((h 13))])), ((h 1), .inl (cI, 99, .inl (sA F))), ((h 2), .inl (cI, 99, .inl fr)), ((h 3), .inl (cI, 594, .inl (kA Q))), ((h 4), .inl (cI, 200, .inl (fun zz => nI (ft zz)))), ((h 5), .inl (cI, 12, .inl (fun zz => nI (B zz)))), ((h 6), .inl (cI, 12, .inl (fun zz => nI (Bt zz)))), ((h 7), .inl (cJ, 16, .inr (.inl W))), ((h 8), .inl (cJ, 16, .inr (.inl M))), ((h 9), .inl (cI, 9, .inl (fun zz => nI (a1 zz)))), ((h 10), .inl (cI, 9, .inl (fun zz => nI (a2 zz)))), ((h 11), .inl (cI, 198, .inl (fun zz => nI (a3 zz)))), ((h 12), .inl (cI, 9, .inl (fun zz => nI ((updN a4 v (r + 1)) zz)))), ((h 13), .inl (cI, 9, .inl (fA a5)))]) EE 12 0 rfl rfl (vp_in_nI (n := v) (by omega) (by decide)) (by rw [nI_clamp (by omega), upd_N, updN_2]; rfl) dX10_distanceFrom_176 ?_
                refine j_goto EE 138 dX10_distanceFrom_177 (by decide) ?_
                exact ihp_138 (r + 1) (by omega) (by omega) (by omega) (fun i z1 z2 => (Nat.lt_or_ge i r).elim (fun z => hr3 i z1 z) (fun z => by rw [show i = r by omega]; exact b2d_0 n164)) htg
        refine j_aload_n EE 2 dX10_distanceFrom_114 rfl rfl ?_
        refine j_get (T := TX10) EE iw_X10_distanceFrom_X10 0 rfl rfl 0 (by decide) lk_X10_distanceFrom_7 rfl dX10_distanceFrom_115 ?_
        refine j_iconst (v := nI 3) EE dX10_distanceFrom_118 (by decide) ?_
        refine j_iald EE 1 0 rfl rfl (vp_in_nI (n := 3) (by omega) (by decide)) dX10_distanceFrom_119 ?_
        refine j_topE (congrArg (sA F) (nI_clamp (n := 3) (by omega))) ?_
        refine j_topE (y := nI (F 3)) (sA_n (by omega)) ?_
        refine j_aload_n EE 2 dX10_distanceFrom_120 rfl rfl ?_
        refine j_get (T := TX10) EE iw_X10_distanceFrom_X10 0 rfl rfl 12 (by decide) lk_X10_distanceFrom_35 rfl dX10_distanceFrom_121 ?_
        refine j_iload_n EE 0 dX10_distanceFrom_124 rfl rfl ?_
        refine j_iald EE 9 0 rfl rfl (vp_in_nI (n := v) (by omega) (by decide)) dX10_distanceFrom_125 ?_
        refine j_topE (congrArg (fun zz => nI (a1 zz)) (nI_clamp (n := v) (by omega))) ?_
        refine j_topE (y := nI (a1 v)) rfl ?_
        refine j_S2 (n9 := 14) EE (c_X10_has (F 3) (a1 v) (by have := hFb 3; omega) (by have := hFb 3; omega)) gX10_distanceFrom_X10_has hd_X10_has rfl ⟨rfl, rfl⟩ ⟨by decide, by decide⟩ rfl [] rfl [0, 1, 2, 3, 4, 5, 6, 7, 8, 9, 10, 11, 12, 13] [((h 0), .inr (6, [.ref ((h 1)), .ref ((h 2)), .ref ((h 3)), .int (nI km), .ref ((h 4)), .int (nI le), .int (nI sp), .ref ((h 5)), .ref ((h 6)), .int (nI ro), .ref ((h 7)), .ref ((h 8)), .ref ((h 9)), .ref ((h 10)), .ref ((h 11)), .ref ((h 12)), .ref ((h 13))])), ((h 1), .inl (cI, 99, .inl (sA F))), ((h 2), .inl (cI, 99, .inl fr)), ((h 3), .inl (cI, 594, .inl (kA Q))), ((h 4), .inl (cI, 200, .inl (fun zz => nI (ft zz)))), ((h 5), .inl (cI, 12, .inl (fun zz => nI (B zz)))), ((h 6), .inl (cI, 12, .inl (fun zz => nI (Bt zz)))), ((h 7), .inl (cJ, 16, .inr (.inl W))), ((h 8), .inl (cJ, 16, .inr (.inl M))), ((h 9), .inl (cI, 9, .inl (fun zz => nI (a1 zz)))), ((h 10), .inl (cI, 9, .inl (fun zz => nI (a2 zz)))), ((h 11), .inl (cI, 198, .inl (fun zz => nI (a3 zz)))), ((h 12), .inl (cI, 9, .inl (fun zz => nI (a4 zz)))), ((h 13), .inl (cI, 9, .inl (fA a5)))] (fun _ => rfl) [((h 0), .inr (6, [.ref ((h 1)), .ref ((h 2)), .ref ((h 3)), .int (nI km), .ref ((h 4)), .int (nI le), .int (nI sp), .ref ((h 5)), .ref ((h 6)), .int (nI ro), .ref ((h 7)), .ref ((h 8)), .ref ((h 9)), .ref ((h 10)), .ref ((h 11)), .ref ((h 12)), .ref ((h 13))])), ((h 1), .inl (cI, 99, .inl (sA F))), ((h 2), .inl (cI, 99, .inl fr)), ((h 3), .inl (cI, 594, .inl (kA Q))), ((h 4), .inl (cI, 200, .inl (fun zz => nI (ft zz)))), ((h 5), .inl (cI, 12, .inl (fun zz => nI (B zz)))), ((h 6), .inl (cI, 12, .inl (fun zz => nI (Bt zz)))), ((h 7), .inl (cJ, 16, .inr (.inl W))), ((h 8), .inl (cJ, 16, .inr (.inl M))), ((h 9), .inl (cI, 9, .inl (fun zz => nI (a1 zz)))), ((h 10), .inl (cI, 9, .inl (fun zz => nI (a2 zz)))), ((h 11), .inl (cI, 198, .inl (fun zz => nI (a3 zz)))), ((h 12), .inl (cI, 9, .inl (fun zz => nI (a4 zz)))), ((h 13), .inl (cI, 9, .inl (fA a5)))] [(h 0), (h 1), (h 2), (h 3), (h 4), (h 5), (h 6), (h 7), (h 8), (h 9), (h 10), (h 11), (h 12), (h 13)] rfl rfl rfl rfl rfl (by decide) (by decide) rfl (Nat.le_of_ble_eq_true rfl) dX10_distanceFrom_126 (fun u_126 h_126 => ?_) rfl
        show J l _ D ε _ _ _ (.int (nI (bt (F 3) (a1 v))) :: _)
        refine j_if_eq EE 138 dX10_distanceFrom_129 (by decide) (fun c129 => ?_) (fun c129 => ?_)
        · skip
          have n129 : (bt (F 3) (a1 v)) = 0 := (nI_eq (a := (bt (F 3) (a1 v))) (b := 0) (by have := bt_lt (F 3) (a1 v); omega) (by have := bt_lt (F 3) (a1 v); omega)).mp c129
          have hx9 := Lp_138 _ (a4 v) (Nat.lt_succ_self _) (Nat.le_refl _) q8 (fun i z1 z2 => absurd z1 (by omega)) (by omega)
          rw [updN_id] at hx9
          exact hx9
        · skip
          have n129 : (bt (F 3) (a1 v)) ≠ 0 := fun hq => c129 ((nI_eq (a := (bt (F 3) (a1 v))) (b := 0) (by have := bt_lt (F 3) (a1 v); omega) (by have := bt_lt (F 3) (a1 v); omega)).mpr hq)
          refine j_iconst (v := nI 0) EE dX10_distanceFrom_132 (by decide) ?_
          refine j_topE (y := nI 1 - nI 1) (by decide) ?_
          refine j_istore EE [(4, _), (3, _), (0, _), (1, _), (2, _)] dX10_distanceFrom_133 (Nat.lt_of_lt_of_eq (by decide) hL.symm) rfl ?_
          refine j_goto EE 5 dX10_distanceFrom_135 (by decide) ?_
          refine j_lv [1, 0, 2, 3, 4] rfl ?_
          exact ihp_5 n1 v 1 a1 a2 a3 a4 a5 (by omega) (kt (bz_1 n129)) (by omega) (by omega)
      refine j_iload_n EE 0 dX10_distanceFrom_5 rfl rfl ?_
      refine j_iload_n EE 3 dX10_distanceFrom_6 rfl rfl ?_
      refine j_icmp_gt EE 15 dX10_distanceFrom_7 (by decide) (fun c7 => ?_) (fun c7 => ?_)
      · skip
        have n7 : fi < v := (nI_ltI (a := fi) (b := v) (by omega) (by omega)).mp c7
        refine j_iload EE 1 dX10_distanceFrom_15 rfl ?_
        refine j_if_lt EE 114 dX10_distanceFrom_17 (by decide) (fun c17 => ?_) (fun c17 => ?_)
        · skip
          have m17 : res = 0 := by first | exact m12 | exact (m1_lt (by omega)).mp c17
          try rw [m17]
          exact Lp_114 m17
        · skip
          have m17 : res ≠ 0 := fun hz => c17 ((m1_lt (by omega)).mpr hz)
          rw [show nI res - nI 1 = nI (res - 1) from pk_sub (by omega)]
          obtain ⟨n1, hn1, k2, k3, k4, k5, k6⟩ := dRun_up hq (by omega) m17
          refine j_iinc (v := nI (v - 1)) EE 0 [(3, .int (nI (v - 1))), (4, _), (0, _), (1, _), (2, _)] dX10_distanceFrom_20 rfl (nI_dec (a := v) (by omega)) (Nat.lt_of_lt_of_eq (by decide) hL.symm) rfl ?_
          refine j_iload EE 1 dX10_distanceFrom_23 rfl ?_
          refine j_sipush (v := nI 1000) EE dX10_distanceFrom_25 (by decide) ?_
          refine j_icmp_ge EE 38 dX10_distanceFrom_28 (by decide) (fun c28 => ?_) (fun c28 => ?_)
          · skip
            have n28 : 1000 ≤ (res - 1) := (nI_leI (a := 1000) (b := (res - 1)) (by omega) (by omega)).mp c28
            refine j_sipush (v := nI 1000) EE dX10_distanceFrom_38 (by decide) ?_
            refine j_istore EE [(5, _), (3, _), (4, _), (0, _), (1, _), (2, _)] dX10_distanceFrom_41 (Nat.lt_of_lt_of_eq (by decide) hL.symm) rfl ?_
            refine j_aload_n EE 3 dX10_distanceFrom_43 rfl rfl ?_
            refine j_get (T := TX10) EE iw_X10_distanceFrom_X10 0 rfl rfl 16 (by decide) lk_X10_distanceFrom_47 rfl dX10_distanceFrom_44 ?_
            refine j_iload_n EE 1 dX10_distanceFrom_47 rfl rfl ?_
            refine j_iald EE 13 0 rfl rfl (vp_in_nI (n := v - 1) (by omega) (by decide)) dX10_distanceFrom_48 ?_
            refine j_topE (congrArg (fA a5) (nI_clamp (n := v - 1) (by omega))) ?_
            refine j_topE (y := nI (a5 (v - 1)) - nI 1) rfl ?_
            refine j_istore EE [(6, _), (5, _), (3, _), (4, _), (0, _), (1, _), (2, _)] dX10_distanceFrom_49 (Nat.lt_of_lt_of_eq (by decide) hL.symm) rfl ?_
            refine j_aload_n EE 4 dX10_distanceFrom_51 rfl rfl ?_
            refine j_get (T := TX10) EE iw_X10_distanceFrom_X10 0 rfl rfl 0 (by decide) lk_X10_distanceFrom_7 rfl dX10_distanceFrom_52 ?_
            refine j_iconst (v := nI 2) EE dX10_distanceFrom_55 (by decide) ?_
            refine j_iald EE 1 0 rfl rfl (vp_in_nI (n := 2) (by omega) (by decide)) dX10_distanceFrom_56 ?_
            refine j_topE (congrArg (sA F) (nI_clamp (n := 2) (by omega))) ?_
            refine j_topE (y := nI (F 2)) (sA_n (by omega)) ?_
            refine j_aload_n EE 4 dX10_distanceFrom_57 rfl rfl ?_
            refine j_get (T := TX10) EE iw_X10_distanceFrom_X10 0 rfl rfl 12 (by decide) lk_X10_distanceFrom_35 rfl dX10_distanceFrom_58 ?_
            refine j_iload_n EE 2 dX10_distanceFrom_61 rfl rfl ?_
            refine j_iald EE 9 0 rfl rfl (vp_in_nI (n := v - 1) (by omega) (by decide)) dX10_distanceFrom_62 ?_
            refine j_topE (congrArg (fun zz => nI (a1 zz)) (nI_clamp (n := v - 1) (by omega))) ?_
            refine j_topE (y := nI (a1 (v - 1))) rfl ?_
            refine j_S2 (n9 := 14) EE (c_X10_has (F 2) (a1 (v - 1)) (by have := hFb 2; omega) (by have := hFb 2; omega)) gX10_distanceFrom_X10_has hd_X10_has rfl ⟨rfl, rfl⟩ ⟨by decide, by decide⟩ rfl [] rfl [0, 1, 2, 3, 4, 5, 6, 7, 8, 9, 10, 11, 12, 13] [((h 0), .inr (6, [.ref ((h 1)), .ref ((h 2)), .ref ((h 3)), .int (nI km), .ref ((h 4)), .int (nI le), .int (nI sp), .ref ((h 5)), .ref ((h 6)), .int (nI ro), .ref ((h 7)), .ref ((h 8)), .ref ((h 9)), .ref ((h 10)), .ref ((h 11)), .ref ((h 12)), .ref ((h 13))])), ((h 1), .inl (cI, 99, .inl (sA F))), ((h 2), .inl (cI, 99, .inl fr)), ((h 3), .inl (cI, 594, .inl (kA Q))), ((h 4), .inl (cI, 200, .inl (fun zz => nI (ft zz)))), ((h 5), .inl (cI, 12, .inl (fun zz => nI (B zz)))), ((h 6), .inl (cI, 12, .inl (fun zz => nI (Bt zz)))), ((h 7), .inl (cJ, 16, .inr (.inl W))), ((h 8), .inl (cJ, 16, .inr (.inl M))), ((h 9), .inl (cI, 9, .inl (fun zz => nI (a1 zz)))), ((h 10), .inl (cI, 9, .inl (fun zz => nI (a2 zz)))), ((h 11), .inl (cI, 198, .inl (fun zz => nI (a3 zz)))), ((h 12), .inl (cI, 9, .inl (fun zz => nI (a4 zz)))), ((h 13), .inl (cI, 9, .inl (fA a5)))] (fun _ => rfl) [((h 0), .inr (6, [.ref ((h 1)), .ref ((h 2)), .ref ((h 3)), .int (nI km), .ref ((h 4)), .int (nI le), .int (nI sp), .ref ((h 5)), .ref ((h 6)), .int (nI ro), .ref ((h 7)), .ref ((h 8)), .ref ((h 9)), .ref ((h 10)), .ref ((h 11)), .ref ((h 12)), .ref ((h 13))])), ((h 1), .inl (cI, 99, .inl (sA F))), ((h 2), .inl (cI, 99, .inl fr)), ((h 3), .inl (cI, 594, .inl (kA Q))), ((h 4), .inl (cI, 200, .inl (fun zz => nI (ft zz)))), ((h 5), .inl (cI, 12, .inl (fun zz => nI (B zz)))), ((h 6), .inl (cI, 12, .inl (fun zz => nI (Bt zz)))), ((h 7), .inl (cJ, 16, .inr (.inl W))), ((h 8), .inl (cJ, 16, .inr (.inl M))), ((h 9), .inl (cI, 9, .inl (fun zz => nI (a1 zz)))), ((h 10), .inl (cI, 9, .inl (fun zz => nI (a2 zz)))), ((h 11), .inl (cI, 198, .inl (fun zz => nI (a3 zz)))), ((h 12), .inl (cI, 9, .inl (fun zz => nI (a4 zz)))), ((h 13), .inl (cI, 9, .inl (fA a5)))] [(h 0), (h 1), (h 2), (h 3), (h 4), (h 5), (h 6), (h 7), (h 8), (h 9), (h 10), (h 11), (h 12), (h 13)] rfl rfl rfl rfl rfl (by decide) (by decide) rfl (Nat.le_of_ble_eq_true rfl) dX10_distanceFrom_63 (fun u_63 h_63 => ?_) rfl
            show J l _ D ε _ _ _ (.int (nI (bt (F 2) (a1 (v - 1)))) :: _)
            refine j_istore EE [(7, _), (6, _), (5, _), (3, _), (4, _), (0, _), (1, _), (2, _)] dX10_distanceFrom_66 (Nat.lt_of_lt_of_eq (by decide) hL.symm) rfl ?_
            refine j_aload_n EE 5 dX10_distanceFrom_68 rfl rfl ?_
            refine j_get (T := TX10) EE iw_X10_distanceFrom_X10 0 rfl rfl 16 (by decide) lk_X10_distanceFrom_47 rfl dX10_distanceFrom_69 ?_
            refine j_iload_n EE 3 dX10_distanceFrom_72 rfl rfl ?_
            refine j_iload EE 1 dX10_distanceFrom_73 rfl ?_
            refine j_if_lt EE 100 dX10_distanceFrom_75 (by decide) (fun c75 => ?_) (fun c75 => ?_)
            · skip
              have m75 := (m1_lt (by omega)).mp c75
              refine j_iload EE 2 dX10_distanceFrom_100 rfl ?_
              refine j_goto EE 107 dX10_distanceFrom_102 (by decide) ?_
              refine j_iast (ws' := [((h 0), .inr (6, [.ref ((h 1)), .ref ((h 2)), .ref ((h 3)), .int (nI km), .ref ((h 4)), .int (nI le), .int (nI sp), .ref ((h 5)), .ref ((h 6)), .int (nI ro), .ref ((h 7)), .ref ((h 8)), .ref ((h 9)), .ref ((h 10)), .ref ((h 11)), .ref ((h 12)), .ref ((h 13))])), ((h 1), .inl (cI, 99, .inl (sA F))), ((h 2), .inl (cI, 99, .inl fr)), ((h 3), .inl (cI, 594, .inl (kA Q))), ((h 4), .inl (cI, 200, .inl (fun zz => nI (ft zz)))), ((h 5), .inl (cI, 12, .inl (fun zz => nI (B zz)))), ((h 6), .inl (cI, 12, .inl (fun zz => nI (Bt zz)))), ((h 7), .inl (cJ, 16, .inr (.inl W))), ((h 8), .inl (cJ, 16, .inr (.inl M))), ((h 9), .inl (cI, 9, .inl (fun zz => nI (a1 zz)))), ((h 10), .inl (cI, 9, .inl (fun zz => nI (a2 zz)))), ((h 11), .inl (cI, 198, .inl (fun zz => nI (a3 zz)))), ((h 12), .inl (cI, 9, .inl (fun zz => nI (a4 zz)))), ((h 13), .inl (cI, 9, .inl (fA (updN a5 (v - 1) (fnd (bt (F 2) (a1 (v - 1))) (a5 (v - 1)) res)))))]) EE 13 0 rfl rfl (vp_in_nI (n := v - 1) (by omega) (by decide)) (by rw [nI_clamp (by omega), upd_fAn (d := fnd (bt (F 2) (a1 (v - 1))) (a5 (v - 1)) res) (by have hbz := bt_lt (F 2) (a1 (v - 1)); unfold fnd byN; (repeat' split) <;> omega)]; rfl) dX10_distanceFrom_107 ?_
              refine j_iconst (v := (-1)) EE dX10_distanceFrom_108 (by decide) ?_
              refine j_topE (y := nI 0 - nI 1) (by decide) ?_
              refine j_istore EE [(4, _), (7, _), (6, _), (5, _), (3, _), (0, _), (1, _), (2, _)] dX10_distanceFrom_109 (Nat.lt_of_lt_of_eq (by decide) hL.symm) rfl ?_
              refine j_goto EE 5 dX10_distanceFrom_111 (by decide) ?_
              refine j_lv [4, 0, 5, 6, 7] rfl ?_
              exact ihp_5 n1 (v - 1) 0 a1 a2 a3 a4 (updN a5 (v - 1) (fnd (bt (F 2) (a1 (v - 1))) (a5 (v - 1)) res)) (by omega) k6 (by omega) (by omega)
            · skip
              have m75 : a5 (v - 1) ≠ 0 := fun hz => c75 ((m1_lt (by omega)).mpr hz)
              rw [show nI (a5 (v - 1)) - nI 1 = nI (a5 (v - 1) - 1) from pk_sub (by omega)]
              refine j_iload EE 0 dX10_distanceFrom_78 rfl ?_
              refine j_if_eq EE 93 dX10_distanceFrom_80 (by decide) (fun c80 => ?_) (fun c80 => ?_)
              · skip
                have n80 : (bt (F 2) (a1 (v - 1))) = 0 := (nI_eq (a := (bt (F 2) (a1 (v - 1)))) (b := 0) (by have := bt_lt (F 2) (a1 (v - 1)); omega) (by have := bt_lt (F 2) (a1 (v - 1)); omega)).mp c80
                refine j_iload EE 2 dX10_distanceFrom_93 rfl ?_
                refine j_iload EE 1 dX10_distanceFrom_95 rfl ?_
                refine j_icmp_ge EE 105 dX10_distanceFrom_97 (by decide) (fun c97 => ?_) (fun c97 => ?_)
                · skip
                  have n97 : (a5 (v - 1) - 1) ≤ 1000 := (nI_leI (a := (a5 (v - 1) - 1)) (b := 1000) (by omega) (by omega)).mp c97
                  refine j_iload EE 1 dX10_distanceFrom_105 rfl ?_
                  refine j_iast (ws' := [((h 0), .inr (6, [.ref ((h 1)), .ref ((h 2)), .ref ((h 3)), .int (nI km), .ref ((h 4)), .int (nI le), .int (nI sp), .ref ((h 5)), .ref ((h 6)), .int (nI ro), .ref ((h 7)), .ref ((h 8)), .ref ((h 9)), .ref ((h 10)), .ref ((h 11)), .ref ((h 12)), .ref ((h 13))])), ((h 1), .inl (cI, 99, .inl (sA F))), ((h 2), .inl (cI, 99, .inl fr)), ((h 3), .inl (cI, 594, .inl (kA Q))), ((h 4), .inl (cI, 200, .inl (fun zz => nI (ft zz)))), ((h 5), .inl (cI, 12, .inl (fun zz => nI (B zz)))), ((h 6), .inl (cI, 12, .inl (fun zz => nI (Bt zz)))), ((h 7), .inl (cJ, 16, .inr (.inl W))), ((h 8), .inl (cJ, 16, .inr (.inl M))), ((h 9), .inl (cI, 9, .inl (fun zz => nI (a1 zz)))), ((h 10), .inl (cI, 9, .inl (fun zz => nI (a2 zz)))), ((h 11), .inl (cI, 198, .inl (fun zz => nI (a3 zz)))), ((h 12), .inl (cI, 9, .inl (fun zz => nI (a4 zz)))), ((h 13), .inl (cI, 9, .inl (fA (updN a5 (v - 1) (fnd (bt (F 2) (a1 (v - 1))) (a5 (v - 1)) res)))))]) EE 13 0 rfl rfl (vp_in_nI (n := v - 1) (by omega) (by decide)) (by rw [nI_clamp (by omega), upd_fAn (d := fnd (bt (F 2) (a1 (v - 1))) (a5 (v - 1)) res) (by have hbz := bt_lt (F 2) (a1 (v - 1)); unfold fnd byN; (repeat' split) <;> omega)]; rfl) dX10_distanceFrom_107 ?_
                  refine j_iconst (v := (-1)) EE dX10_distanceFrom_108 (by decide) ?_
                  refine j_topE (y := nI 0 - nI 1) (by decide) ?_
                  refine j_istore EE [(4, _), (7, _), (6, _), (5, _), (3, _), (0, _), (1, _), (2, _)] dX10_distanceFrom_109 (Nat.lt_of_lt_of_eq (by decide) hL.symm) rfl ?_
                  refine j_goto EE 5 dX10_distanceFrom_111 (by decide) ?_
                  refine j_lv [4, 0, 5, 6, 7] rfl ?_
                  exact ihp_5 n1 (v - 1) 0 a1 a2 a3 a4 (updN a5 (v - 1) (fnd (bt (F 2) (a1 (v - 1))) (a5 (v - 1)) res)) (by omega) k6 (by omega) (by omega)
                · skip
                  have n97 : ¬ (a5 (v - 1) - 1) ≤ 1000 := fun hq => c97 ((nI_leI (a := (a5 (v - 1) - 1)) (b := 1000) (by omega) (by omega)).mpr hq)
                  refine j_iload EE 2 dX10_distanceFrom_100 rfl ?_
                  refine j_goto EE 107 dX10_distanceFrom_102 (by decide) ?_
                  refine j_iast (ws' := [((h 0), .inr (6, [.ref ((h 1)), .ref ((h 2)), .ref ((h 3)), .int (nI km), .ref ((h 4)), .int (nI le), .int (nI sp), .ref ((h 5)), .ref ((h 6)), .int (nI ro), .ref ((h 7)), .ref ((h 8)), .ref ((h 9)), .ref ((h 10)), .ref ((h 11)), .ref ((h 12)), .ref ((h 13))])), ((h 1), .inl (cI, 99, .inl (sA F))), ((h 2), .inl (cI, 99, .inl fr)), ((h 3), .inl (cI, 594, .inl (kA Q))), ((h 4), .inl (cI, 200, .inl (fun zz => nI (ft zz)))), ((h 5), .inl (cI, 12, .inl (fun zz => nI (B zz)))), ((h 6), .inl (cI, 12, .inl (fun zz => nI (Bt zz)))), ((h 7), .inl (cJ, 16, .inr (.inl W))), ((h 8), .inl (cJ, 16, .inr (.inl M))), ((h 9), .inl (cI, 9, .inl (fun zz => nI (a1 zz)))), ((h 10), .inl (cI, 9, .inl (fun zz => nI (a2 zz)))), ((h 11), .inl (cI, 198, .inl (fun zz => nI (a3 zz)))), ((h 12), .inl (cI, 9, .inl (fun zz => nI (a4 zz)))), ((h 13), .inl (cI, 9, .inl (fA (updN a5 (v - 1) (fnd (bt (F 2) (a1 (v - 1))) (a5 (v - 1)) res)))))]) EE 13 0 rfl rfl (vp_in_nI (n := v - 1) (by omega) (by decide)) (by rw [nI_clamp (by omega), upd_fAn (d := fnd (bt (F 2) (a1 (v - 1))) (a5 (v - 1)) res) (by have hbz := bt_lt (F 2) (a1 (v - 1)); unfold fnd byN; (repeat' split) <;> omega)]; rfl) dX10_distanceFrom_107 ?_
                  refine j_iconst (v := (-1)) EE dX10_distanceFrom_108 (by decide) ?_
                  refine j_topE (y := nI 0 - nI 1) (by decide) ?_
                  refine j_istore EE [(4, _), (7, _), (6, _), (5, _), (3, _), (0, _), (1, _), (2, _)] dX10_distanceFrom_109 (Nat.lt_of_lt_of_eq (by decide) hL.symm) rfl ?_
                  refine j_goto EE 5 dX10_distanceFrom_111 (by decide) ?_
                  refine j_lv [4, 0, 5, 6, 7] rfl ?_
                  exact ihp_5 n1 (v - 1) 0 a1 a2 a3 a4 (updN a5 (v - 1) (fnd (bt (F 2) (a1 (v - 1))) (a5 (v - 1)) res)) (by omega) k6 (by omega) (by omega)
              · skip
                have n80 : (bt (F 2) (a1 (v - 1))) ≠ 0 := fun hq => c80 ((nI_eq (a := (bt (F 2) (a1 (v - 1)))) (b := 0) (by have := bt_lt (F 2) (a1 (v - 1)); omega) (by have := bt_lt (F 2) (a1 (v - 1)); omega)).mpr hq)
                refine j_iload EE 2 dX10_distanceFrom_83 rfl ?_
                refine j_iload EE 1 dX10_distanceFrom_85 rfl ?_
                refine j_icmp_le EE 105 dX10_distanceFrom_87 (by decide) (fun c87 => ?_) (fun c87 => ?_)
                · skip
                  have n87 : 1000 ≤ (a5 (v - 1) - 1) := (nI_leI (a := 1000) (b := (a5 (v - 1) - 1)) (by omega) (by omega)).mp c87
                  refine j_iload EE 1 dX10_distanceFrom_105 rfl ?_
                  refine j_iast (ws' := [((h 0), .inr (6, [.ref ((h 1)), .ref ((h 2)), .ref ((h 3)), .int (nI km), .ref ((h 4)), .int (nI le), .int (nI sp), .ref ((h 5)), .ref ((h 6)), .int (nI ro), .ref ((h 7)), .ref ((h 8)), .ref ((h 9)), .ref ((h 10)), .ref ((h 11)), .ref ((h 12)), .ref ((h 13))])), ((h 1), .inl (cI, 99, .inl (sA F))), ((h 2), .inl (cI, 99, .inl fr)), ((h 3), .inl (cI, 594, .inl (kA Q))), ((h 4), .inl (cI, 200, .inl (fun zz => nI (ft zz)))), ((h 5), .inl (cI, 12, .inl (fun zz => nI (B zz)))), ((h 6), .inl (cI, 12, .inl (fun zz => nI (Bt zz)))), ((h 7), .inl (cJ, 16, .inr (.inl W))), ((h 8), .inl (cJ, 16, .inr (.inl M))), ((h 9), .inl (cI, 9, .inl (fun zz => nI (a1 zz)))), ((h 10), .inl (cI, 9, .inl (fun zz => nI (a2 zz)))), ((h 11), .inl (cI, 198, .inl (fun zz => nI (a3 zz)))), ((h 12), .inl (cI, 9, .inl (fun zz => nI (a4 zz)))), ((h 13), .inl (cI, 9, .inl (fA (updN a5 (v - 1) (fnd (bt (F 2) (a1 (v - 1))) (a5 (v - 1)) res)))))]) EE 13 0 rfl rfl (vp_in_nI (n := v - 1) (by omega) (by decide)) (by rw [nI_clamp (by omega), upd_fAn (d := fnd (bt (F 2) (a1 (v - 1))) (a5 (v - 1)) res) (by have hbz := bt_lt (F 2) (a1 (v - 1)); unfold fnd byN; (repeat' split) <;> omega)]; rfl) dX10_distanceFrom_107 ?_
                  refine j_iconst (v := (-1)) EE dX10_distanceFrom_108 (by decide) ?_
                  refine j_topE (y := nI 0 - nI 1) (by decide) ?_
                  refine j_istore EE [(4, _), (7, _), (6, _), (5, _), (3, _), (0, _), (1, _), (2, _)] dX10_distanceFrom_109 (Nat.lt_of_lt_of_eq (by decide) hL.symm) rfl ?_
                  refine j_goto EE 5 dX10_distanceFrom_111 (by decide) ?_
                  refine j_lv [4, 0, 5, 6, 7] rfl ?_
                  exact ihp_5 n1 (v - 1) 0 a1 a2 a3 a4 (updN a5 (v - 1) (fnd (bt (F 2) (a1 (v - 1))) (a5 (v - 1)) res)) (by omega) k6 (by omega) (by omega)
                · skip
                  have n87 : ¬ 1000 ≤ (a5 (v - 1) - 1) := fun hq => c87 ((nI_leI (a := 1000) (b := (a5 (v - 1) - 1)) (by omega) (by omega)).mpr hq)
                  refine j_goto EE 100 dX10_distanceFrom_90 (by decide) ?_
                  refine j_iload EE 2 dX10_distanceFrom_100 rfl ?_
                  refine j_goto EE 107 dX10_distanceFrom_102 (by decide) ?_
                  refine j_iast (ws' := [((h 0), .inr (6, [.ref ((h 1)), .ref ((h 2)), .ref ((h 3)), .int (nI km), .ref ((h 4)), .int (nI le), .int (nI sp), .ref ((h 5)), .ref ((h 6)), .int (nI ro), .ref ((h 7)), .ref ((h 8)), .ref ((h 9)), .ref ((h 10)), .ref ((h 11)), .ref ((h 12)), .ref ((h 13))])), ((h 1), .inl (cI, 99, .inl (sA F))), ((h 2), .inl (cI, 99, .inl fr)), ((h 3), .inl (cI, 594, .inl (kA Q))), ((h 4), .inl (cI, 200, .inl (fun zz => nI (ft zz)))), ((h 5), .inl (cI, 12, .inl (fun zz => nI (B zz)))), ((h 6), .inl (cI, 12, .inl (fun zz => nI (Bt zz)))), ((h 7), .inl (cJ, 16, .inr (.inl W))), ((h 8), .inl (cJ, 16, .inr (.inl M))), ((h 9), .inl (cI, 9, .inl (fun zz => nI (a1 zz)))), ((h 10), .inl (cI, 9, .inl (fun zz => nI (a2 zz)))), ((h 11), .inl (cI, 198, .inl (fun zz => nI (a3 zz)))), ((h 12), .inl (cI, 9, .inl (fun zz => nI (a4 zz)))), ((h 13), .inl (cI, 9, .inl (fA (updN a5 (v - 1) (fnd (bt (F 2) (a1 (v - 1))) (a5 (v - 1)) res)))))]) EE 13 0 rfl rfl (vp_in_nI (n := v - 1) (by omega) (by decide)) (by rw [nI_clamp (by omega), upd_fAn (d := fnd (bt (F 2) (a1 (v - 1))) (a5 (v - 1)) res) (by have hbz := bt_lt (F 2) (a1 (v - 1)); unfold fnd byN; (repeat' split) <;> omega)]; rfl) dX10_distanceFrom_107 ?_
                  refine j_iconst (v := (-1)) EE dX10_distanceFrom_108 (by decide) ?_
                  refine j_topE (y := nI 0 - nI 1) (by decide) ?_
                  refine j_istore EE [(4, _), (7, _), (6, _), (5, _), (3, _), (0, _), (1, _), (2, _)] dX10_distanceFrom_109 (Nat.lt_of_lt_of_eq (by decide) hL.symm) rfl ?_
                  refine j_goto EE 5 dX10_distanceFrom_111 (by decide) ?_
                  refine j_lv [4, 0, 5, 6, 7] rfl ?_
                  exact ihp_5 n1 (v - 1) 0 a1 a2 a3 a4 (updN a5 (v - 1) (fnd (bt (F 2) (a1 (v - 1))) (a5 (v - 1)) res)) (by omega) k6 (by omega) (by omega)
          · skip
            have n28 : ¬ 1000 ≤ (res - 1) := fun hq => c28 ((nI_leI (a := 1000) (b := (res - 1)) (by omega) (by omega)).mpr hq)
            refine j_iload EE 1 dX10_distanceFrom_31 rfl ?_
            refine j_iconst (v := nI 1) EE dX10_distanceFrom_33 (by decide) ?_
            refine j_iadd EE dX10_distanceFrom_34 ?_
            refine j_topE (nI_add (res - 1) 1) ?_
            refine j_goto EE 41 dX10_distanceFrom_35 (by decide) ?_
            refine j_istore EE [(5, _), (3, _), (4, _), (0, _), (1, _), (2, _)] dX10_distanceFrom_41 (Nat.lt_of_lt_of_eq (by decide) hL.symm) rfl ?_
            refine j_aload_n EE 3 dX10_distanceFrom_43 rfl rfl ?_
            refine j_get (T := TX10) EE iw_X10_distanceFrom_X10 0 rfl rfl 16 (by decide) lk_X10_distanceFrom_47 rfl dX10_distanceFrom_44 ?_
            refine j_iload_n EE 1 dX10_distanceFrom_47 rfl rfl ?_
            refine j_iald EE 13 0 rfl rfl (vp_in_nI (n := v - 1) (by omega) (by decide)) dX10_distanceFrom_48 ?_
            refine j_topE (congrArg (fA a5) (nI_clamp (n := v - 1) (by omega))) ?_
            refine j_topE (y := nI (a5 (v - 1)) - nI 1) rfl ?_
            refine j_istore EE [(6, _), (5, _), (3, _), (4, _), (0, _), (1, _), (2, _)] dX10_distanceFrom_49 (Nat.lt_of_lt_of_eq (by decide) hL.symm) rfl ?_
            refine j_aload_n EE 4 dX10_distanceFrom_51 rfl rfl ?_
            refine j_get (T := TX10) EE iw_X10_distanceFrom_X10 0 rfl rfl 0 (by decide) lk_X10_distanceFrom_7 rfl dX10_distanceFrom_52 ?_
            refine j_iconst (v := nI 2) EE dX10_distanceFrom_55 (by decide) ?_
            refine j_iald EE 1 0 rfl rfl (vp_in_nI (n := 2) (by omega) (by decide)) dX10_distanceFrom_56 ?_
            refine j_topE (congrArg (sA F) (nI_clamp (n := 2) (by omega))) ?_
            refine j_topE (y := nI (F 2)) (sA_n (by omega)) ?_
            refine j_aload_n EE 4 dX10_distanceFrom_57 rfl rfl ?_
            refine j_get (T := TX10) EE iw_X10_distanceFrom_X10 0 rfl rfl 12 (by decide) lk_X10_distanceFrom_35 rfl dX10_distanceFrom_58 ?_
            refine j_iload_n EE 2 dX10_distanceFrom_61 rfl rfl ?_
            refine j_iald EE 9 0 rfl rfl (vp_in_nI (n := v - 1) (by omega) (by decide)) dX10_distanceFrom_62 ?_
            refine j_topE (congrArg (fun zz => nI (a1 zz)) (nI_clamp (n := v - 1) (by omega))) ?_
            refine j_topE (y := nI (a1 (v - 1))) rfl ?_
            refine j_S2 (n9 := 14) EE (c_X10_has (F 2) (a1 (v - 1)) (by have := hFb 2; omega) (by have := hFb 2; omega)) gX10_distanceFrom_X10_has hd_X10_has rfl ⟨rfl, rfl⟩ ⟨by decide, by decide⟩ rfl [] rfl [0, 1, 2, 3, 4, 5, 6, 7, 8, 9, 10, 11, 12, 13] [((h 0), .inr (6, [.ref ((h 1)), .ref ((h 2)), .ref ((h 3)), .int (nI km), .ref ((h 4)), .int (nI le), .int (nI sp), .ref ((h 5)), .ref ((h 6)), .int (nI ro), .ref ((h 7)), .ref ((h 8)), .ref ((h 9)), .ref ((h 10)), .ref ((h 11)), .ref ((h 12)), .ref ((h 13))])), ((h 1), .inl (cI, 99, .inl (sA F))), ((h 2), .inl (cI, 99, .inl fr)), ((h 3), .inl (cI, 594, .inl (kA Q))), ((h 4), .inl (cI, 200, .inl (fun zz => nI (ft zz)))), ((h 5), .inl (cI, 12, .inl (fun zz => nI (B zz)))), ((h 6), .inl (cI, 12, .inl (fun zz => nI (Bt zz)))), ((h 7), .inl (cJ, 16, .inr (.inl W))), ((h 8), .inl (cJ, 16, .inr (.inl M))), ((h 9), .inl (cI, 9, .inl (fun zz => nI (a1 zz)))), ((h 10), .inl (cI, 9, .inl (fun zz => nI (a2 zz)))), ((h 11), .inl (cI, 198, .inl (fun zz => nI (a3 zz)))), ((h 12), .inl (cI, 9, .inl (fun zz => nI (a4 zz)))), ((h 13), .inl (cI, 9, .inl (fA a5)))] (fun _ => rfl) [((h 0), .inr (6, [.ref ((h 1)), .ref ((h 2)), .ref ((h 3)), .int (nI km), .ref ((h 4)), .int (nI le), .int (nI sp), .ref ((h 5)), .ref ((h 6)), .int (nI ro), .ref ((h 7)), .ref ((h 8)), .ref ((h 9)), .ref ((h 10)), .ref ((h 11)), .ref ((h 12)), .ref ((h 13))])), ((h 1), .inl (cI, 99, .inl (sA F))), ((h 2), .inl (cI, 99, .inl fr)), ((h 3), .inl (cI, 594, .inl (kA Q))), ((h 4), .inl (cI, 200, .inl (fun zz => nI (ft zz)))), ((h 5), .inl (cI, 12, .inl (fun zz => nI (B zz)))), ((h 6), .inl (cI, 12, .inl (fun zz => nI (Bt zz)))), ((h 7), .inl (cJ, 16, .inr (.inl W))), ((h 8), .inl (cJ, 16, .inr (.inl M))), ((h 9), .inl (cI, 9, .inl (fun zz => nI (a1 zz)))), ((h 10), .inl (cI, 9, .inl (fun zz => nI (a2 zz)))), ((h 11), .inl (cI, 198, .inl (fun zz => nI (a3 zz)))), ((h 12), .inl (cI, 9, .inl (fun zz => nI (a4 zz)))), ((h 13), .inl (cI, 9, .inl (fA a5)))] [(h 0), (h 1), (h 2), (h 3), (h 4), (h 5), (h 6), (h 7), (h 8), (h 9), (h 10), (h 11), (h 12), (h 13)] rfl rfl rfl rfl rfl (by decide) (by decide) rfl (Nat.le_of_ble_eq_true rfl) dX10_distanceFrom_63 (fun u_63 h_63 => ?_) rfl
            show J l _ D ε _ _ _ (.int (nI (bt (F 2) (a1 (v - 1)))) :: _)
            refine j_istore EE [(7, _), (6, _), (5, _), (3, _), (4, _), (0, _), (1, _), (2, _)] dX10_distanceFrom_66 (Nat.lt_of_lt_of_eq (by decide) hL.symm) rfl ?_
            refine j_aload_n EE 5 dX10_distanceFrom_68 rfl rfl ?_
            refine j_get (T := TX10) EE iw_X10_distanceFrom_X10 0 rfl rfl 16 (by decide) lk_X10_distanceFrom_47 rfl dX10_distanceFrom_69 ?_
            refine j_iload_n EE 3 dX10_distanceFrom_72 rfl rfl ?_
            refine j_iload EE 1 dX10_distanceFrom_73 rfl ?_
            refine j_if_lt EE 100 dX10_distanceFrom_75 (by decide) (fun c75 => ?_) (fun c75 => ?_)
            · skip
              have m75 := (m1_lt (by omega)).mp c75
              refine j_iload EE 2 dX10_distanceFrom_100 rfl ?_
              refine j_goto EE 107 dX10_distanceFrom_102 (by decide) ?_
              refine j_iast (ws' := [((h 0), .inr (6, [.ref ((h 1)), .ref ((h 2)), .ref ((h 3)), .int (nI km), .ref ((h 4)), .int (nI le), .int (nI sp), .ref ((h 5)), .ref ((h 6)), .int (nI ro), .ref ((h 7)), .ref ((h 8)), .ref ((h 9)), .ref ((h 10)), .ref ((h 11)), .ref ((h 12)), .ref ((h 13))])), ((h 1), .inl (cI, 99, .inl (sA F))), ((h 2), .inl (cI, 99, .inl fr)), ((h 3), .inl (cI, 594, .inl (kA Q))), ((h 4), .inl (cI, 200, .inl (fun zz => nI (ft zz)))), ((h 5), .inl (cI, 12, .inl (fun zz => nI (B zz)))), ((h 6), .inl (cI, 12, .inl (fun zz => nI (Bt zz)))), ((h 7), .inl (cJ, 16, .inr (.inl W))), ((h 8), .inl (cJ, 16, .inr (.inl M))), ((h 9), .inl (cI, 9, .inl (fun zz => nI (a1 zz)))), ((h 10), .inl (cI, 9, .inl (fun zz => nI (a2 zz)))), ((h 11), .inl (cI, 198, .inl (fun zz => nI (a3 zz)))), ((h 12), .inl (cI, 9, .inl (fun zz => nI (a4 zz)))), ((h 13), .inl (cI, 9, .inl (fA (updN a5 (v - 1) (fnd (bt (F 2) (a1 (v - 1))) (a5 (v - 1)) res)))))]) EE 13 0 rfl rfl (vp_in_nI (n := v - 1) (by omega) (by decide)) (by rw [nI_clamp (by omega), upd_fAn (d := fnd (bt (F 2) (a1 (v - 1))) (a5 (v - 1)) res) (by have hbz := bt_lt (F 2) (a1 (v - 1)); unfold fnd byN; (repeat' split) <;> omega)]; rfl) dX10_distanceFrom_107 ?_
              refine j_iconst (v := (-1)) EE dX10_distanceFrom_108 (by decide) ?_
              refine j_topE (y := nI 0 - nI 1) (by decide) ?_
              refine j_istore EE [(4, _), (7, _), (6, _), (5, _), (3, _), (0, _), (1, _), (2, _)] dX10_distanceFrom_109 (Nat.lt_of_lt_of_eq (by decide) hL.symm) rfl ?_
              refine j_goto EE 5 dX10_distanceFrom_111 (by decide) ?_
              refine j_lv [4, 0, 5, 6, 7] rfl ?_
              exact ihp_5 n1 (v - 1) 0 a1 a2 a3 a4 (updN a5 (v - 1) (fnd (bt (F 2) (a1 (v - 1))) (a5 (v - 1)) res)) (by omega) k6 (by omega) (by omega)
            · skip
              have m75 : a5 (v - 1) ≠ 0 := fun hz => c75 ((m1_lt (by omega)).mpr hz)
              rw [show nI (a5 (v - 1)) - nI 1 = nI (a5 (v - 1) - 1) from pk_sub (by omega)]
              refine j_iload EE 0 dX10_distanceFrom_78 rfl ?_
              refine j_if_eq EE 93 dX10_distanceFrom_80 (by decide) (fun c80 => ?_) (fun c80 => ?_)
              · skip
                have n80 : (bt (F 2) (a1 (v - 1))) = 0 := (nI_eq (a := (bt (F 2) (a1 (v - 1)))) (b := 0) (by have := bt_lt (F 2) (a1 (v - 1)); omega) (by have := bt_lt (F 2) (a1 (v - 1)); omega)).mp c80
                refine j_iload EE 2 dX10_distanceFrom_93 rfl ?_
                refine j_iload EE 1 dX10_distanceFrom_95 rfl ?_
                refine j_icmp_ge EE 105 dX10_distanceFrom_97 (by decide) (fun c97 => ?_) (fun c97 => ?_)
                · skip
                  have n97 : (a5 (v - 1) - 1) ≤ ((res - 1) + 1) := (nI_leI (a := (a5 (v - 1) - 1)) (b := ((res - 1) + 1)) (by omega) (by omega)).mp c97
                  refine j_iload EE 1 dX10_distanceFrom_105 rfl ?_
                  refine j_iast (ws' := [((h 0), .inr (6, [.ref ((h 1)), .ref ((h 2)), .ref ((h 3)), .int (nI km), .ref ((h 4)), .int (nI le), .int (nI sp), .ref ((h 5)), .ref ((h 6)), .int (nI ro), .ref ((h 7)), .ref ((h 8)), .ref ((h 9)), .ref ((h 10)), .ref ((h 11)), .ref ((h 12)), .ref ((h 13))])), ((h 1), .inl (cI, 99, .inl (sA F))), ((h 2), .inl (cI, 99, .inl fr)), ((h 3), .inl (cI, 594, .inl (kA Q))), ((h 4), .inl (cI, 200, .inl (fun zz => nI (ft zz)))), ((h 5), .inl (cI, 12, .inl (fun zz => nI (B zz)))), ((h 6), .inl (cI, 12, .inl (fun zz => nI (Bt zz)))), ((h 7), .inl (cJ, 16, .inr (.inl W))), ((h 8), .inl (cJ, 16, .inr (.inl M))), ((h 9), .inl (cI, 9, .inl (fun zz => nI (a1 zz)))), ((h 10), .inl (cI, 9, .inl (fun zz => nI (a2 zz)))), ((h 11), .inl (cI, 198, .inl (fun zz => nI (a3 zz)))), ((h 12), .inl (cI, 9, .inl (fun zz => nI (a4 zz)))), ((h 13), .inl (cI, 9, .inl (fA (updN a5 (v - 1) (fnd (bt (F 2) (a1 (v - 1))) (a5 (v - 1)) res)))))]) EE 13 0 rfl rfl (vp_in_nI (n := v - 1) (by omega) (by decide)) (by rw [nI_clamp (by omega), upd_fAn (d := fnd (bt (F 2) (a1 (v - 1))) (a5 (v - 1)) res) (by have hbz := bt_lt (F 2) (a1 (v - 1)); unfold fnd byN; (repeat' split) <;> omega)]; rfl) dX10_distanceFrom_107 ?_
                  refine j_iconst (v := (-1)) EE dX10_distanceFrom_108 (by decide) ?_
                  refine j_topE (y := nI 0 - nI 1) (by decide) ?_
                  refine j_istore EE [(4, _), (7, _), (6, _), (5, _), (3, _), (0, _), (1, _), (2, _)] dX10_distanceFrom_109 (Nat.lt_of_lt_of_eq (by decide) hL.symm) rfl ?_
                  refine j_goto EE 5 dX10_distanceFrom_111 (by decide) ?_
                  refine j_lv [4, 0, 5, 6, 7] rfl ?_
                  exact ihp_5 n1 (v - 1) 0 a1 a2 a3 a4 (updN a5 (v - 1) (fnd (bt (F 2) (a1 (v - 1))) (a5 (v - 1)) res)) (by omega) k6 (by omega) (by omega)
                · skip
                  have n97 : ¬ (a5 (v - 1) - 1) ≤ ((res - 1) + 1) := fun hq => c97 ((nI_leI (a := (a5 (v - 1) - 1)) (b := ((res - 1) + 1)) (by omega) (by omega)).mpr hq)
                  refine j_iload EE 2 dX10_distanceFrom_100 rfl ?_
                  refine j_goto EE 107 dX10_distanceFrom_102 (by decide) ?_
                  refine j_iast (ws' := [((h 0), .inr (6, [.ref ((h 1)), .ref ((h 2)), .ref ((h 3)), .int (nI km), .ref ((h 4)), .int (nI le), .int (nI sp), .ref ((h 5)), .ref ((h 6)), .int (nI ro), .ref ((h 7)), .ref ((h 8)), .ref ((h 9)), .ref ((h 10)), .ref ((h 11)), .ref ((h 12)), .ref ((h 13))])), ((h 1), .inl (cI, 99, .inl (sA F))), ((h 2), .inl (cI, 99, .inl fr)), ((h 3), .inl (cI, 594, .inl (kA Q))), ((h 4), .inl (cI, 200, .inl (fun zz => nI (ft zz)))), ((h 5), .inl (cI, 12, .inl (fun zz => nI (B zz)))), ((h 6), .inl (cI, 12, .inl (fun zz => nI (Bt zz)))), ((h 7), .inl (cJ, 16, .inr (.inl W))), ((h 8), .inl (cJ, 16, .inr (.inl M))), ((h 9), .inl (cI, 9, .inl (fun zz => nI (a1 zz)))), ((h 10), .inl (cI, 9, .inl (fun zz => nI (a2 zz)))), ((h 11), .inl (cI, 198, .inl (fun zz => nI (a3 zz)))), ((h 12), .inl (cI, 9, .inl (fun zz => nI (a4 zz)))), ((h 13), .inl (cI, 9, .inl (fA (updN a5 (v - 1) (fnd (bt (F 2) (a1 (v - 1))) (a5 (v - 1)) res)))))]) EE 13 0 rfl rfl (vp_in_nI (n := v - 1) (by omega) (by decide)) (by rw [nI_clamp (by omega), upd_fAn (d := fnd (bt (F 2) (a1 (v - 1))) (a5 (v - 1)) res) (by have hbz := bt_lt (F 2) (a1 (v - 1)); unfold fnd byN; (repeat' split) <;> omega)]; rfl) dX10_distanceFrom_107 ?_
                  refine j_iconst (v := (-1)) EE dX10_distanceFrom_108 (by decide) ?_
                  refine j_topE (y := nI 0 - nI 1) (by decide) ?_
                  refine j_istore EE [(4, _), (7, _), (6, _), (5, _), (3, _), (0, _), (1, _), (2, _)] dX10_distanceFrom_109 (Nat.lt_of_lt_of_eq (by decide) hL.symm) rfl ?_
                  refine j_goto EE 5 dX10_distanceFrom_111 (by decide) ?_
                  refine j_lv [4, 0, 5, 6, 7] rfl ?_
                  exact ihp_5 n1 (v - 1) 0 a1 a2 a3 a4 (updN a5 (v - 1) (fnd (bt (F 2) (a1 (v - 1))) (a5 (v - 1)) res)) (by omega) k6 (by omega) (by omega)
              · skip
                have n80 : (bt (F 2) (a1 (v - 1))) ≠ 0 := fun hq => c80 ((nI_eq (a := (bt (F 2) (a1 (v - 1)))) (b := 0) (by have := bt_lt (F 2) (a1 (v - 1)); omega) (by have := bt_lt (F 2) (a1 (v - 1)); omega)).mpr hq)
                refine j_iload EE 2 dX10_distanceFrom_83 rfl ?_
                refine j_iload EE 1 dX10_distanceFrom_85 rfl ?_
                refine j_icmp_le EE 105 dX10_distanceFrom_87 (by decide) (fun c87 => ?_) (fun c87 => ?_)
                · skip
                  have n87 : ((res - 1) + 1) ≤ (a5 (v - 1) - 1) := (nI_leI (a := ((res - 1) + 1)) (b := (a5 (v - 1) - 1)) (by omega) (by omega)).mp c87
                  refine j_iload EE 1 dX10_distanceFrom_105 rfl ?_
                  refine j_iast (ws' := [((h 0), .inr (6, [.ref ((h 1)), .ref ((h 2)), .ref ((h 3)), .int (nI km), .ref ((h 4)), .int (nI le), .int (nI sp), .ref ((h 5)), .ref ((h 6)), .int (nI ro), .ref ((h 7)), .ref ((h 8)), .ref ((h 9)), .ref ((h 10)), .ref ((h 11)), .ref ((h 12)), .ref ((h 13))])), ((h 1), .inl (cI, 99, .inl (sA F))), ((h 2), .inl (cI, 99, .inl fr)), ((h 3), .inl (cI, 594, .inl (kA Q))), ((h 4), .inl (cI, 200, .inl (fun zz => nI (ft zz)))), ((h 5), .inl (cI, 12, .inl (fun zz => nI (B zz)))), ((h 6), .inl (cI, 12, .inl (fun zz => nI (Bt zz)))), ((h 7), .inl (cJ, 16, .inr (.inl W))), ((h 8), .inl (cJ, 16, .inr (.inl M))), ((h 9), .inl (cI, 9, .inl (fun zz => nI (a1 zz)))), ((h 10), .inl (cI, 9, .inl (fun zz => nI (a2 zz)))), ((h 11), .inl (cI, 198, .inl (fun zz => nI (a3 zz)))), ((h 12), .inl (cI, 9, .inl (fun zz => nI (a4 zz)))), ((h 13), .inl (cI, 9, .inl (fA (updN a5 (v - 1) (fnd (bt (F 2) (a1 (v - 1))) (a5 (v - 1)) res)))))]) EE 13 0 rfl rfl (vp_in_nI (n := v - 1) (by omega) (by decide)) (by rw [nI_clamp (by omega), upd_fAn (d := fnd (bt (F 2) (a1 (v - 1))) (a5 (v - 1)) res) (by have hbz := bt_lt (F 2) (a1 (v - 1)); unfold fnd byN; (repeat' split) <;> omega)]; rfl) dX10_distanceFrom_107 ?_
                  refine j_iconst (v := (-1)) EE dX10_distanceFrom_108 (by decide) ?_
                  refine j_topE (y := nI 0 - nI 1) (by decide) ?_
                  refine j_istore EE [(4, _), (7, _), (6, _), (5, _), (3, _), (0, _), (1, _), (2, _)] dX10_distanceFrom_109 (Nat.lt_of_lt_of_eq (by decide) hL.symm) rfl ?_
                  refine j_goto EE 5 dX10_distanceFrom_111 (by decide) ?_
                  refine j_lv [4, 0, 5, 6, 7] rfl ?_
                  exact ihp_5 n1 (v - 1) 0 a1 a2 a3 a4 (updN a5 (v - 1) (fnd (bt (F 2) (a1 (v - 1))) (a5 (v - 1)) res)) (by omega) k6 (by omega) (by omega)
                · skip
                  have n87 : ¬ ((res - 1) + 1) ≤ (a5 (v - 1) - 1) := fun hq => c87 ((nI_leI (a := ((res - 1) + 1)) (b := (a5 (v - 1) - 1)) (by omega) (by omega)).mpr hq)
                  refine j_goto EE 100 dX10_distanceFrom_90 (by decide) ?_
                  refine j_iload EE 2 dX10_distanceFrom_100 rfl ?_
                  refine j_goto EE 107 dX10_distanceFrom_102 (by decide) ?_
                  refine j_iast (ws' := [((h 0), .inr (6, [.ref ((h 1)), .ref ((h 2)), .ref ((h 3)), .int (nI km), .ref ((h 4)), .int (nI le), .int (nI sp), .ref ((h 5)), .ref ((h 6)), .int (nI ro), .ref ((h 7)), .ref ((h 8)), .ref ((h 9)), .ref ((h 10)), .ref ((h 11)), .ref ((h 12)), .ref ((h 13))])), ((h 1), .inl (cI, 99, .inl (sA F))), ((h 2), .inl (cI, 99, .inl fr)), ((h 3), .inl (cI, 594, .inl (kA Q))), ((h 4), .inl (cI, 200, .inl (fun zz => nI (ft zz)))), ((h 5), .inl (cI, 12, .inl (fun zz => nI (B zz)))), ((h 6), .inl (cI, 12, .inl (fun zz => nI (Bt zz)))), ((h 7), .inl (cJ, 16, .inr (.inl W))), ((h 8), .inl (cJ, 16, .inr (.inl M))), ((h 9), .inl (cI, 9, .inl (fun zz => nI (a1 zz)))), ((h 10), .inl (cI, 9, .inl (fun zz => nI (a2 zz)))), ((h 11), .inl (cI, 198, .inl (fun zz => nI (a3 zz)))), ((h 12), .inl (cI, 9, .inl (fun zz => nI (a4 zz)))), ((h 13), .inl (cI, 9, .inl (fA (updN a5 (v - 1) (fnd (bt (F 2) (a1 (v - 1))) (a5 (v - 1)) res)))))]) EE 13 0 rfl rfl (vp_in_nI (n := v - 1) (by omega) (by decide)) (by rw [nI_clamp (by omega), upd_fAn (d := fnd (bt (F 2) (a1 (v - 1))) (a5 (v - 1)) res) (by have hbz := bt_lt (F 2) (a1 (v - 1)); unfold fnd byN; (repeat' split) <;> omega)]; rfl) dX10_distanceFrom_107 ?_
                  refine j_iconst (v := (-1)) EE dX10_distanceFrom_108 (by decide) ?_
                  refine j_topE (y := nI 0 - nI 1) (by decide) ?_
                  refine j_istore EE [(4, _), (7, _), (6, _), (5, _), (3, _), (0, _), (1, _), (2, _)] dX10_distanceFrom_109 (Nat.lt_of_lt_of_eq (by decide) hL.symm) rfl ?_
                  refine j_goto EE 5 dX10_distanceFrom_111 (by decide) ?_
                  refine j_lv [4, 0, 5, 6, 7] rfl ?_
                  exact ihp_5 n1 (v - 1) 0 a1 a2 a3 a4 (updN a5 (v - 1) (fnd (bt (F 2) (a1 (v - 1))) (a5 (v - 1)) res)) (by omega) k6 (by omega) (by omega)
      · skip
        have n7 : ¬ fi < v := fun hq => c7 ((nI_ltI (a := fi) (b := v) (by omega) (by omega)).mpr hq)
        refine j_iload EE 1 dX10_distanceFrom_10 rfl ?_
        refine j_if_ge EE 257 dX10_distanceFrom_12 (by decide) (fun c12 => ?_) (fun c12 => ?_)
        · skip
          have m12 := (m1_ge (by omega)).mp c12
          have ho := dRun_end hq (by omega) m12
          refine j_iload EE 1 dX10_distanceFrom_257 rfl ?_
          exact j_iret EE FF dX10_distanceFrom_259 () trivial (by rw [ho]) (by rw [ho])
        · skip
          have m12 : res = 0 := by
            rcases Nat.eq_zero_or_pos res with hz | hz
            · exact hz
            · exact absurd ((m1_ge (by omega)).mpr (by omega)) c12
          rw [m12]
          refine j_iload EE 1 dX10_distanceFrom_15 rfl ?_
          refine j_if_lt EE 114 dX10_distanceFrom_17 (by decide) (fun c17 => ?_) (fun c17 => absurd (by decide) c17)
          have m17 : res = 0 := by first | exact m12 | exact (m1_lt (by omega)).mp c17
          try rw [m17]
          exact Lp_114 m17
  refine j_iload_n EE 1 dX10_distanceFrom_0 rfl rfl ?_
  refine j_istore_n EE [(3, _), (0, _), (1, _), (2, _)] dX10_distanceFrom_1 rfl (Nat.lt_of_lt_of_eq (by decide) hL.symm) rfl ?_
  refine j_iconst (v := (-1)) EE dX10_distanceFrom_2 (by decide) ?_
  refine j_topE (y := nI 0 - nI 1) (by decide) ?_
  refine j_istore EE [(4, _), (3, _), (0, _), (1, _), (2, _)] dX10_distanceFrom_3 (Nat.lt_of_lt_of_eq (by decide) hL.symm) rfl ?_
  refine j_lv [1, 0, 2, 3, 4] rfl ?_
  exact Lp_5 _ nn fi 0 a1 a2 a3 a4 a5 (Nat.lt_succ_self _) hq0 (by omega) hfi

theorem hd_X10_layPresent : yX10_layPresent.cls ≠ "java/lang/invoke/MethodHandle" ∧ yX10_layPresent.cls ≠ "java/lang/invoke/VarHandle" ∧ (parseMethodDescriptor yX10_layPresent.desc).map (fun d => d.parameters.length) = some 0 := by decide +kernel
theorem hd_X10_distanceFrom : yX10_distanceFrom.cls ≠ "java/lang/invoke/MethodHandle" ∧ yX10_distanceFrom.cls ≠ "java/lang/invoke/VarHandle" ∧ (parseMethodDescriptor yX10_distanceFrom.desc).map (fun d => d.parameters.length) = some 2 := by decide +kernel
set_option maxHeartbeats 4000000 in
set_option maxRecDepth 100000 in
theorem c_X10_distance (h F Q ft B Bt a1 a2 a3 a4 a5 : Nat → Nat) (fr : Nat → Int32) (W M : Nat → Int64) (km le sp ro : Nat) (nn : Nat) (o : Nat × DT) (hFb : ∀ i, F i < 65536) (hn : F 4 ≤ 16) (h12 : F 86 ≤ 12) (hq0 : dRun F 0 7 nn 0 0 (updN a1 0 (F 85)) (updN a2 0 (F 86)) (lpP a3 F (F 86)) (updN a4 0 0) (updN a5 0 0) o) (ho1 : 1 ≤ o.1) (ho2 : o.1 ≤ 1001) : Ct l yX10_distance wsX10_distance (rmD (3)) D [(cI, .int), (cC, .char), (cJ, .long), (cG, .object "PushdownGameSolver$Game")] [.ref ((h 0))] [((h 0), .inr (6, [.ref ((h 1)), .ref ((h 2)), .ref ((h 3)), .int (nI km), .ref ((h 4)), .int (nI le), .int (nI sp), .ref ((h 5)), .ref ((h 6)), .int (nI ro), .ref ((h 7)), .ref ((h 8)), .ref ((h 9)), .ref ((h 10)), .ref ((h 11)), .ref ((h 12)), .ref ((h 13))])), ((h 1), .inl (cI, 99, .inl (sA F))), ((h 2), .inl (cI, 99, .inl fr)), ((h 3), .inl (cI, 594, .inl (kA Q))), ((h 4), .inl (cI, 200, .inl (fun zz => nI (ft zz)))), ((h 5), .inl (cI, 12, .inl (fun zz => nI (B zz)))), ((h 6), .inl (cI, 12, .inl (fun zz => nI (Bt zz)))), ((h 7), .inl (cJ, 16, .inr (.inl W))), ((h 8), .inl (cJ, 16, .inr (.inl M))), ((h 9), .inl (cI, 9, .inl (fun zz => nI (a1 zz)))), ((h 10), .inl (cI, 9, .inl (fun zz => nI (a2 zz)))), ((h 11), .inl (cI, 198, .inl (fun zz => nI (a3 zz)))), ((h 12), .inl (cI, 9, .inl (fun zz => nI (a4 zz)))), ((h 13), .inl (cI, 9, .inl (fA a5)))] (S := Unit) (fun _ => True) (fun _ => some (.int (if o.1 = 1001 then (-4) else nI (o.1 - 1)))) (fun _ => [((h 0), .inr (6, [.ref ((h 1)), .ref ((h 2)), .ref ((h 3)), .int (nI km), .ref ((h 4)), .int (nI le), .int (nI sp), .ref ((h 5)), .ref ((h 6)), .int (nI ro), .ref ((h 7)), .ref ((h 8)), .ref ((h 9)), .ref ((h 10)), .ref ((h 11)), .ref ((h 12)), .ref ((h 13))])), ((h 1), .inl (cI, 99, .inl (sA F))), ((h 2), .inl (cI, 99, .inl fr)), ((h 3), .inl (cI, 594, .inl (kA Q))), ((h 4), .inl (cI, 200, .inl (fun zz => nI (ft zz)))), ((h 5), .inl (cI, 12, .inl (fun zz => nI (B zz)))), ((h 6), .inl (cI, 12, .inl (fun zz => nI (Bt zz)))), ((h 7), .inl (cJ, 16, .inr (.inl W))), ((h 8), .inl (cJ, 16, .inr (.inl M))), ((h 9), .inl (cI, 9, .inl (fun zz => nI (o.2.1 zz)))), ((h 10), .inl (cI, 9, .inl (fun zz => nI (o.2.2.1 zz)))), ((h 11), .inl (cI, 198, .inl (fun zz => nI (o.2.2.2.1 zz)))), ((h 12), .inl (cI, 9, .inl (fun zz => nI (o.2.2.2.2.1 zz)))), ((h 13), .inl (cI, 9, .inl (fA o.2.2.2.2.2)))]) := by
  refine Ct.of (lv := [(0, .ref ((h 0)))]) (by decide) rfl (Nat.le_of_ble_eq_true rfl) rfl ?_
  intro ε hL EE FF
  refine j_aload_n EE 0 dX10_distance_0 rfl rfl ?_
  refine j_V2 (n9 := 14) EE (c_X10_layPresent h F Q ft B Bt a1 a2 a3 a4 a5 fr W M km le sp ro hFb (by omega)) gX10_distance_X10_layPresent ⟨rfl, hd_X10_layPresent⟩ rfl ⟨rfl, rfl⟩ ⟨by decide, by decide⟩ rfl [0, 1, 2, 3, 4, 5, 6, 7, 8, 9, 10, 11, 12, 13] rfl [] [((h 0), .inr (6, [.ref ((h 1)), .ref ((h 2)), .ref ((h 3)), .int (nI km), .ref ((h 4)), .int (nI le), .int (nI sp), .ref ((h 5)), .ref ((h 6)), .int (nI ro), .ref ((h 7)), .ref ((h 8)), .ref ((h 9)), .ref ((h 10)), .ref ((h 11)), .ref ((h 12)), .ref ((h 13))])), ((h 1), .inl (cI, 99, .inl (sA F))), ((h 2), .inl (cI, 99, .inl fr)), ((h 3), .inl (cI, 594, .inl (kA Q))), ((h 4), .inl (cI, 200, .inl (fun zz => nI (ft zz)))), ((h 5), .inl (cI, 12, .inl (fun zz => nI (B zz)))), ((h 6), .inl (cI, 12, .inl (fun zz => nI (Bt zz)))), ((h 7), .inl (cJ, 16, .inr (.inl W))), ((h 8), .inl (cJ, 16, .inr (.inl M))), ((h 9), .inl (cI, 9, .inl (fun zz => nI ((updN a1 0 (F 85)) zz)))), ((h 10), .inl (cI, 9, .inl (fun zz => nI ((updN a2 0 (F 86)) zz)))), ((h 11), .inl (cI, 198, .inl (fun zz => nI ((lpP a3 F (F 86)) zz)))), ((h 12), .inl (cI, 9, .inl (fun zz => nI ((updN a4 0 0) zz)))), ((h 13), .inl (cI, 9, .inl (fA (updN a5 0 0))))] (fun _ => rfl) [] [(h 0), (h 1), (h 2), (h 3), (h 4), (h 5), (h 6), (h 7), (h 8), (h 9), (h 10), (h 11), (h 12), (h 13)] rfl rfl rfl rfl rfl (by decide) (by decide) 0 rfl rfl rfl (Nat.le_of_ble_eq_true rfl) dX10_distance_1 (fun u_1 h_1 => ?_) rfl
  refine j_aload_n EE 0 dX10_distance_4 rfl rfl ?_
  refine j_iconst (v := nI 0) EE dX10_distance_5 (by decide) ?_
  refine j_bipush (v := nI 7) EE dX10_distance_6 (by decide) ?_
  refine j_V2 (n9 := 14) EE (c_X10_distanceFrom h F Q ft B Bt (updN a1 0 (F 85)) (updN a2 0 (F 86)) (lpP a3 F (F 86)) (updN a4 0 0) (updN a5 0 0) fr W M km le sp ro 0 7 nn o hFb hn (by decide) (by decide) hq0) gX10_distance_X10_distanceFrom ⟨rfl, hd_X10_distanceFrom⟩ rfl ⟨rfl, rfl⟩ ⟨by decide, by decide⟩ rfl [0, 1, 2, 3, 4, 5, 6, 7, 8, 9, 10, 11, 12, 13] rfl [] [((h 0), .inr (6, [.ref ((h 1)), .ref ((h 2)), .ref ((h 3)), .int (nI km), .ref ((h 4)), .int (nI le), .int (nI sp), .ref ((h 5)), .ref ((h 6)), .int (nI ro), .ref ((h 7)), .ref ((h 8)), .ref ((h 9)), .ref ((h 10)), .ref ((h 11)), .ref ((h 12)), .ref ((h 13))])), ((h 1), .inl (cI, 99, .inl (sA F))), ((h 2), .inl (cI, 99, .inl fr)), ((h 3), .inl (cI, 594, .inl (kA Q))), ((h 4), .inl (cI, 200, .inl (fun zz => nI (ft zz)))), ((h 5), .inl (cI, 12, .inl (fun zz => nI (B zz)))), ((h 6), .inl (cI, 12, .inl (fun zz => nI (Bt zz)))), ((h 7), .inl (cJ, 16, .inr (.inl W))), ((h 8), .inl (cJ, 16, .inr (.inl M))), ((h 9), .inl (cI, 9, .inl (fun zz => nI (o.2.1 zz)))), ((h 10), .inl (cI, 9, .inl (fun zz => nI (o.2.2.1 zz)))), ((h 11), .inl (cI, 198, .inl (fun zz => nI (o.2.2.2.1 zz)))), ((h 12), .inl (cI, 9, .inl (fun zz => nI (o.2.2.2.2.1 zz)))), ((h 13), .inl (cI, 9, .inl (fA o.2.2.2.2.2)))] (fun _ => rfl) [] [(h 0), (h 1), (h 2), (h 3), (h 4), (h 5), (h 6), (h 7), (h 8), (h 9), (h 10), (h 11), (h 12), (h 13)] rfl rfl rfl rfl rfl (by decide) (by decide) 0 rfl rfl rfl (Nat.le_of_ble_eq_true rfl) dX10_distance_8 (fun u_8 h_8 => ?_) rfl
  show J l _ D ε _ _ _ (.int (nI o.1 - nI 1) :: _)
  refine j_topE (y := nI (o.1 - 1)) (pk_sub (by omega)) ?_
  show J l _ D ε _ _ _ (.int (nI (o.1 - 1)) :: _)
  refine j_istore_n EE [(1, _), (0, _)] dX10_distance_11 rfl (Nat.lt_of_lt_of_eq (by decide) hL.symm) rfl ?_
  refine j_iload_n EE 0 dX10_distance_12 rfl rfl ?_
  refine j_sipush (v := nI 1000) EE dX10_distance_13 (by decide) ?_
  refine j_icmp_lt EE 24 dX10_distance_16 (by decide) (fun c16 => ?_) (fun c16 => ?_)
  · skip
    have n16 : (o.1 - 1) < 1000 := (nI_ltI (a := (o.1 - 1)) (b := 1000) (by omega) (by omega)).mp c16
    refine j_iload_n EE 0 dX10_distance_24 rfl rfl ?_
    exact j_iret EE FF dX10_distance_25 () trivial (by first | rw [if_pos (by omega)] | rw [if_neg (by omega)]) rfl
  · skip
    have n16 : ¬ (o.1 - 1) < 1000 := fun hq => c16 ((nI_ltI (a := (o.1 - 1)) (b := 1000) (by omega) (by omega)).mpr hq)
    refine j_bipush (v := (-4)) EE dX10_distance_19 (by decide) ?_
    refine j_goto EE 25 dX10_distance_21 (by decide) ?_
    exact j_iret EE FF dX10_distance_25 () trivial (by first | rw [if_pos (by omega)] | rw [if_neg (by omega)]) rfl

theorem iw_X10_bestRule_X10 : ∀ w ∈ wsX100, w ∈ wsX10_bestRule := fun _ h => List.mem_cons_of_mem _ (List.mem_append_right _ h)
theorem lk_X10_bestRule_7 : Cond.fieldLink RX10 7 (TX10 0).1 (TX10 0).2.1 (TX10 0).2.2.1 ∈ wsX10_bestRule := List.mem_of_getElem? (i := 1) rfl
set_option maxHeartbeats 4000000 in
set_option maxRecDepth 100000 in
theorem c_X10_bestRuleN (h F Q ft B Bt a1 a2 a3 a4 a5 : Nat → Nat) (fr : Nat → Int32) (W M : Nat → Int64) (km le sp ro : Nat) (hFb : ∀ i, F i < 65536) (hq : F 85 < 4) (hop : bt (F 2) (F 85) = 1) : Ct l yX10_bestRule wsX10_bestRule (rmD (4)) D [(cI, .int), (cC, .char), (cJ, .long), (cG, .object "PushdownGameSolver$Game")] [.ref ((h 0))] [((h 0), .inr (6, [.ref ((h 1)), .ref ((h 2)), .ref ((h 3)), .int (nI km), .ref ((h 4)), .int (nI le), .int (nI sp), .ref ((h 5)), .ref ((h 6)), .int (nI ro), .ref ((h 7)), .ref ((h 8)), .ref ((h 9)), .ref ((h 10)), .ref ((h 11)), .ref ((h 12)), .ref ((h 13))])), ((h 1), .inl (cI, 99, .inl (sA F))), ((h 2), .inl (cI, 99, .inl fr)), ((h 3), .inl (cI, 594, .inl (kA Q))), ((h 4), .inl (cI, 200, .inl (fun zz => nI (ft zz)))), ((h 5), .inl (cI, 12, .inl (fun zz => nI (B zz)))), ((h 6), .inl (cI, 12, .inl (fun zz => nI (Bt zz)))), ((h 7), .inl (cJ, 16, .inr (.inl W))), ((h 8), .inl (cJ, 16, .inr (.inl M))), ((h 9), .inl (cI, 9, .inl (fun zz => nI (a1 zz)))), ((h 10), .inl (cI, 9, .inl (fun zz => nI (a2 zz)))), ((h 11), .inl (cI, 198, .inl (fun zz => nI (a3 zz)))), ((h 12), .inl (cI, 9, .inl (fun zz => nI (a4 zz)))), ((h 13), .inl (cI, 9, .inl (fA a5)))] (S := Unit) (fun _ => True) (fun _ => some (.int ((-2)))) (fun _ => [((h 0), .inr (6, [.ref ((h 1)), .ref ((h 2)), .ref ((h 3)), .int (nI km), .ref ((h 4)), .int (nI le), .int (nI sp), .ref ((h 5)), .ref ((h 6)), .int (nI ro), .ref ((h 7)), .ref ((h 8)), .ref ((h 9)), .ref ((h 10)), .ref ((h 11)), .ref ((h 12)), .ref ((h 13))])), ((h 1), .inl (cI, 99, .inl (sA F))), ((h 2), .inl (cI, 99, .inl fr)), ((h 3), .inl (cI, 594, .inl (kA Q))), ((h 4), .inl (cI, 200, .inl (fun zz => nI (ft zz)))), ((h 5), .inl (cI, 12, .inl (fun zz => nI (B zz)))), ((h 6), .inl (cI, 12, .inl (fun zz => nI (Bt zz)))), ((h 7), .inl (cJ, 16, .inr (.inl W))), ((h 8), .inl (cJ, 16, .inr (.inl M))), ((h 9), .inl (cI, 9, .inl (fun zz => nI (a1 zz)))), ((h 10), .inl (cI, 9, .inl (fun zz => nI (a2 zz)))), ((h 11), .inl (cI, 198, .inl (fun zz => nI (a3 zz)))), ((h 12), .inl (cI, 9, .inl (fun zz => nI (a4 zz)))), ((h 13), .inl (cI, 9, .inl (fA a5)))]) := by
  refine Ct.of (lv := [(0, .ref ((h 0)))]) (by decide) rfl (Nat.le_of_ble_eq_true rfl) rfl ?_
  intro ε hL EE FF
  have hf2 := hFb 2
  refine j_aload_n EE 0 dX10_bestRule_0 rfl rfl ?_
  refine j_get (T := TX10) EE iw_X10_bestRule_X10 0 rfl rfl 0 (by decide) lk_X10_bestRule_7 rfl dX10_bestRule_1 ?_
  refine j_iconst (v := nI 2) EE dX10_bestRule_4 (by decide) ?_
  refine j_iald EE 1 0 rfl rfl (vp_in_nI (n := 2) (by omega) (by decide)) dX10_bestRule_5 ?_
  refine j_topE (congrArg (sA F) (nI_clamp (n := 2) (by omega))) ?_
  refine j_topE (y := nI (F 2)) (sA_n (by omega)) ?_
  refine j_aload_n EE 0 dX10_bestRule_6 rfl rfl ?_
  refine j_get (T := TX10) EE iw_X10_bestRule_X10 0 rfl rfl 0 (by decide) lk_X10_bestRule_7 rfl dX10_bestRule_7 ?_
  refine j_bipush (v := nI 85) EE dX10_bestRule_10 (by decide) ?_
  refine j_iald EE 1 0 rfl rfl (vp_in_nI (n := 85) (by omega) (by decide)) dX10_bestRule_12 ?_
  refine j_topE (congrArg (sA F) (nI_clamp (n := 85) (by omega))) ?_
  refine j_topE (y := nI (F 85)) (sA_n (by omega)) ?_
  refine j_S2 (n9 := 14) EE (c_X10_has (F 2) (F 85) (by have := hFb 2; have := hFb 85; omega) (by have := hFb 2; have := hFb 85; omega)) gX10_bestRule_X10_has hd_X10_has rfl ⟨rfl, rfl⟩ ⟨by decide, by decide⟩ rfl [] rfl [0, 1, 2, 3, 4, 5, 6, 7, 8, 9, 10, 11, 12, 13] [((h 0), .inr (6, [.ref ((h 1)), .ref ((h 2)), .ref ((h 3)), .int (nI km), .ref ((h 4)), .int (nI le), .int (nI sp), .ref ((h 5)), .ref ((h 6)), .int (nI ro), .ref ((h 7)), .ref ((h 8)), .ref ((h 9)), .ref ((h 10)), .ref ((h 11)), .ref ((h 12)), .ref ((h 13))])), ((h 1), .inl (cI, 99, .inl (sA F))), ((h 2), .inl (cI, 99, .inl fr)), ((h 3), .inl (cI, 594, .inl (kA Q))), ((h 4), .inl (cI, 200, .inl (fun zz => nI (ft zz)))), ((h 5), .inl (cI, 12, .inl (fun zz => nI (B zz)))), ((h 6), .inl (cI, 12, .inl (fun zz => nI (Bt zz)))), ((h 7), .inl (cJ, 16, .inr (.inl W))), ((h 8), .inl (cJ, 16, .inr (.inl M))), ((h 9), .inl (cI, 9, .inl (fun zz => nI (a1 zz)))), ((h 10), .inl (cI, 9, .inl (fun zz => nI (a2 zz)))), ((h 11), .inl (cI, 198, .inl (fun zz => nI (a3 zz)))), ((h 12), .inl (cI, 9, .inl (fun zz => nI (a4 zz)))), ((h 13), .inl (cI, 9, .inl (fA a5)))] (fun _ => rfl) [((h 0), .inr (6, [.ref ((h 1)), .ref ((h 2)), .ref ((h 3)), .int (nI km), .ref ((h 4)), .int (nI le), .int (nI sp), .ref ((h 5)), .ref ((h 6)), .int (nI ro), .ref ((h 7)), .ref ((h 8)), .ref ((h 9)), .ref ((h 10)), .ref ((h 11)), .ref ((h 12)), .ref ((h 13))])), ((h 1), .inl (cI, 99, .inl (sA F))), ((h 2), .inl (cI, 99, .inl fr)), ((h 3), .inl (cI, 594, .inl (kA Q))), ((h 4), .inl (cI, 200, .inl (fun zz => nI (ft zz)))), ((h 5), .inl (cI, 12, .inl (fun zz => nI (B zz)))), ((h 6), .inl (cI, 12, .inl (fun zz => nI (Bt zz)))), ((h 7), .inl (cJ, 16, .inr (.inl W))), ((h 8), .inl (cJ, 16, .inr (.inl M))), ((h 9), .inl (cI, 9, .inl (fun zz => nI (a1 zz)))), ((h 10), .inl (cI, 9, .inl (fun zz => nI (a2 zz)))), ((h 11), .inl (cI, 198, .inl (fun zz => nI (a3 zz)))), ((h 12), .inl (cI, 9, .inl (fun zz => nI (a4 zz)))), ((h 13), .inl (cI, 9, .inl (fA a5)))] [(h 0), (h 1), (h 2), (h 3), (h 4), (h 5), (h 6), (h 7), (h 8), (h 9), (h 10), (h 11), (h 12), (h 13)] rfl rfl rfl rfl rfl (by decide) (by decide) rfl (Nat.le_of_ble_eq_true rfl) dX10_bestRule_13 (fun u_13 h_13 => ?_) rfl
  show J l _ D ε _ _ _ (.int (nI (bt (F 2) (F 85))) :: _)
  refine j_if_eq EE 22 dX10_bestRule_16 (by decide) (fun c16 => absurd c16 (by rw [hop]; decide)) (fun c16 => ?_)
  have n16 : (bt (F 2) (F 85)) ≠ 0 := fun hq => c16 ((nI_eq (a := (bt (F 2) (F 85))) (b := 0) (by have := bt_lt (F 2) (F 85); omega) (by have := bt_lt (F 2) (F 85); omega)).mpr hq)
  refine j_bipush (v := (-2)) EE dX10_bestRule_19 (by decide) ?_
  exact j_iret EE FF dX10_bestRule_21 () trivial (by first | rfl | simp_all) rfl

set_option maxHeartbeats 4000000 in
set_option maxRecDepth 100000 in
theorem c_X10_bestRule (h F Q ft B Bt a1 a2 a3 a4 a5 : Nat → Nat) (fr : Nat → Int32) (W M : Nat → Int64) (km le sp ro : Nat) (hFb : ∀ i, F i < 65536) (hn : F 4 ≤ 16) (h12 : F 86 ≤ 12) (hq : F 85 < 4) (hop : ¬ bt (F 2) (F 85) = 1) (Dr : Nat → Nat) (hdr : ∀ r, r < F 4 → plB F r = true → ∀ a1 a2 a3 a4 a5 : Nat → Nat, (∀ i, a1 i < 65536) → (∀ i, a3 i < 65536) → ∃ nn o, dRun F 1 7 nn 1 0 (updN (updN a1 0 (F 85)) 1 (F (5 + 5 * r + 2))) (updN (updN a2 0 (F 86)) 1 (goH F (updN a2 0 (F 86)) 0 r)) (goP F (updN a2 0 (F 86)) (lpP a3 F (F 86)) 0 r) (updN (updN a4 0 0) 1 0) (updN (updN a5 0 0) 1 0) o ∧ o.1 = Dr r + 1 ∧ Dr r ≤ 1000 ∧ (∀ i, o.2.1 i < 65536) ∧ (∀ i, o.2.2.2.1 i < 65536)) (hb1 : ∀ i, a1 i < 65536) (hb3 : ∀ i, a3 i < 65536) : Ct l yX10_bestRule wsX10_bestRule (rmD (4)) D [(cI, .int), (cC, .char), (cJ, .long), (cG, .object "PushdownGameSolver$Game")] [.ref ((h 0))] [((h 0), .inr (6, [.ref ((h 1)), .ref ((h 2)), .ref ((h 3)), .int (nI km), .ref ((h 4)), .int (nI le), .int (nI sp), .ref ((h 5)), .ref ((h 6)), .int (nI ro), .ref ((h 7)), .ref ((h 8)), .ref ((h 9)), .ref ((h 10)), .ref ((h 11)), .ref ((h 12)), .ref ((h 13))])), ((h 1), .inl (cI, 99, .inl (sA F))), ((h 2), .inl (cI, 99, .inl fr)), ((h 3), .inl (cI, 594, .inl (kA Q))), ((h 4), .inl (cI, 200, .inl (fun zz => nI (ft zz)))), ((h 5), .inl (cI, 12, .inl (fun zz => nI (B zz)))), ((h 6), .inl (cI, 12, .inl (fun zz => nI (Bt zz)))), ((h 7), .inl (cJ, 16, .inr (.inl W))), ((h 8), .inl (cJ, 16, .inr (.inl M))), ((h 9), .inl (cI, 9, .inl (fun zz => nI (a1 zz)))), ((h 10), .inl (cI, 9, .inl (fun zz => nI (a2 zz)))), ((h 11), .inl (cI, 198, .inl (fun zz => nI (a3 zz)))), ((h 12), .inl (cI, 9, .inl (fun zz => nI (a4 zz)))), ((h 13), .inl (cI, 9, .inl (fA a5)))] (S := DT) (fun u => (∀ i, u.1 i < 65536) ∧ (∀ i, u.2.2.1 i < 65536)) (fun u => some (.int (oI (bmL (plB F) Dr (F 4)).1))) (fun u => [((h 0), .inr (6, [.ref ((h 1)), .ref ((h 2)), .ref ((h 3)), .int (nI km), .ref ((h 4)), .int (nI le), .int (nI sp), .ref ((h 5)), .ref ((h 6)), .int (nI ro), .ref ((h 7)), .ref ((h 8)), .ref ((h 9)), .ref ((h 10)), .ref ((h 11)), .ref ((h 12)), .ref ((h 13))])), ((h 1), .inl (cI, 99, .inl (sA F))), ((h 2), .inl (cI, 99, .inl fr)), ((h 3), .inl (cI, 594, .inl (kA Q))), ((h 4), .inl (cI, 200, .inl (fun zz => nI (ft zz)))), ((h 5), .inl (cI, 12, .inl (fun zz => nI (B zz)))), ((h 6), .inl (cI, 12, .inl (fun zz => nI (Bt zz)))), ((h 7), .inl (cJ, 16, .inr (.inl W))), ((h 8), .inl (cJ, 16, .inr (.inl M))), ((h 9), .inl (cI, 9, .inl (fun zz => nI (u.1 zz)))), ((h 10), .inl (cI, 9, .inl (fun zz => nI (u.2.1 zz)))), ((h 11), .inl (cI, 198, .inl (fun zz => nI (u.2.2.1 zz)))), ((h 12), .inl (cI, 9, .inl (fun zz => nI (u.2.2.2.1 zz)))), ((h 13), .inl (cI, 9, .inl (fA u.2.2.2.2)))]) := by
  refine Ct.of (lv := [(0, .ref ((h 0)))]) (by decide) rfl (Nat.le_of_ble_eq_true rfl) rfl ?_
  intro ε hL EE FF
  have hf2 := hFb 2
  have hbz := bt_lt (F 2) (F 85)
  have Lp_31 : ∀ (nf : Nat), ∀ (r : Nat) (b : Option Nat) (ls : Nat) (a1 a2 a3 a4 a5 : Nat → Nat), 17 - r < nf → (r ≤ F 4) → (ls ≤ 1000) → (bmL (plB F) Dr r = (b, ls)) → (∀ i, a1 i < 65536) → (∀ i, a3 i < 65536) → J l (rmD (4)) D ε [((h 0), .inr (6, [.ref ((h 1)), .ref ((h 2)), .ref ((h 3)), .int (nI km), .ref ((h 4)), .int (nI le), .int (nI sp), .ref ((h 5)), .ref ((h 6)), .int (nI ro), .ref ((h 7)), .ref ((h 8)), .ref ((h 9)), .ref ((h 10)), .ref ((h 11)), .ref ((h 12)), .ref ((h 13))])), ((h 1), .inl (cI, 99, .inl (sA F))), ((h 2), .inl (cI, 99, .inl fr)), ((h 3), .inl (cI, 594, .inl (kA Q))), ((h 4), .inl (cI, 200, .inl (fun zz => nI (ft zz)))), ((h 5), .inl (cI, 12, .inl (fun zz => nI (B zz)))), ((h 6), .inl (cI, 12, .inl (fun zz => nI (Bt zz)))), ((h 7), .inl (cJ, 16, .inr (.inl W))), ((h 8), .inl (cJ, 16, .inr (.inl M))), ((h 9), .inl (cI, 9, .inl (fun zz => nI (a1 zz)))), ((h 10), .inl (cI, 9, .inl (fun zz => nI (a2 zz)))), ((h 11), .inl (cI, 198, .inl (fun zz => nI (a3 zz)))), ((h 12), .inl (cI, 9, .inl (fun zz => nI (a4 zz)))), ((h 13), .inl (cI, 9, .inl (fA a5)))] 31 [(3, .int (nI r)), (2, .int (nI ls)), (1, .int (oI b)), (0, .ref ((h 0)))] [] := by
    intro nf
    induction nf with
    | zero => intro r b ls a1 a2 a3 a4 a5 hm; exact absurd hm (Nat.not_lt_zero _)
    | succ nf ihp_31 =>
      intro r b ls a1 a2 a3 a4 a5 hm31 hr hls hb hb1 hb3
      refine j_iload_n EE 0 dX10_bestRule_31 rfl rfl ?_
      refine j_aload_n EE 3 dX10_bestRule_32 rfl rfl ?_
      refine j_get (T := TX10) EE iw_X10_bestRule_X10 0 rfl rfl 0 (by decide) lk_X10_bestRule_7 rfl dX10_bestRule_33 ?_
      refine j_iconst (v := nI 4) EE dX10_bestRule_36 (by decide) ?_
      refine j_iald EE 1 0 rfl rfl (vp_in_nI (n := 4) (by omega) (by decide)) dX10_bestRule_37 ?_
      refine j_topE (congrArg (sA F) (nI_clamp (n := 4) (by omega))) ?_
      refine j_topE (y := nI (F 4)) (sA_n (by omega)) ?_
      refine j_icmp_ge EE 99 dX10_bestRule_38 (by decide) (fun c38 => ?_) (fun c38 => ?_)
      · skip
        have n38 : (F 4) ≤ r := (nI_leI (a := (F 4)) (b := r) (by have := hFb 4; omega) (by have := hFb 4; omega)).mp c38
        refine j_iload_n EE 2 dX10_bestRule_99 rfl rfl ?_
        exact j_iret EE FF dX10_bestRule_100 (a1, a2, a3, a4, a5) ⟨hb1, hb3⟩ (by rw [show F 4 = r by omega, hb]) rfl
      · skip
        have n38 : ¬ (F 4) ≤ r := fun hq => c38 ((nI_leI (a := (F 4)) (b := r) (by have := hFb 4; omega) (by have := hFb 4; omega)).mpr hq)
        refine j_aload_n EE 3 dX10_bestRule_41 rfl rfl ?_
        refine j_iload_n EE 0 dX10_bestRule_42 rfl rfl ?_
        refine j_V2 (n9 := 14) EE (c_X10_isPlayable h F Q ft B Bt a1 a2 a3 a4 a5 fr W M km le sp ro r hFb (by omega) (by omega)) gX10_bestRule_X10_isPlayable ⟨rfl, hd_X10_isPlayable⟩ rfl ⟨rfl, rfl⟩ ⟨by decide, by decide⟩ rfl [0, 1, 2, 3, 4, 5, 6, 7, 8, 9, 10, 11, 12, 13] rfl [] [((h 0), .inr (6, [.ref ((h 1)), .ref ((h 2)), .ref ((h 3)), .int (nI km), .ref ((h 4)), .int (nI le), .int (nI sp), .ref ((h 5)), .ref ((h 6)), .int (nI ro), .ref ((h 7)), .ref ((h 8)), .ref ((h 9)), .ref ((h 10)), .ref ((h 11)), .ref ((h 12)), .ref ((h 13))])), ((h 1), .inl (cI, 99, .inl (sA F))), ((h 2), .inl (cI, 99, .inl fr)), ((h 3), .inl (cI, 594, .inl (kA Q))), ((h 4), .inl (cI, 200, .inl (fun zz => nI (ft zz)))), ((h 5), .inl (cI, 12, .inl (fun zz => nI (B zz)))), ((h 6), .inl (cI, 12, .inl (fun zz => nI (Bt zz)))), ((h 7), .inl (cJ, 16, .inr (.inl W))), ((h 8), .inl (cJ, 16, .inr (.inl M))), ((h 9), .inl (cI, 9, .inl (fun zz => nI (a1 zz)))), ((h 10), .inl (cI, 9, .inl (fun zz => nI (a2 zz)))), ((h 11), .inl (cI, 198, .inl (fun zz => nI (a3 zz)))), ((h 12), .inl (cI, 9, .inl (fun zz => nI (a4 zz)))), ((h 13), .inl (cI, 9, .inl (fA a5)))] (fun _ => rfl) [] [(h 0), (h 1), (h 2), (h 3), (h 4), (h 5), (h 6), (h 7), (h 8), (h 9), (h 10), (h 11), (h 12), (h 13)] rfl rfl rfl rfl rfl (by decide) (by decide) 0 rfl rfl rfl (Nat.le_of_ble_eq_true rfl) dX10_bestRule_43 (fun u_43 h_43 => ?_) rfl
        show J l _ D ε _ _ _ (.int (nI (b2n (plB F r))) :: _)
        refine j_if_eq EE 93 dX10_bestRule_46 (by decide) (fun c46 => ?_) (fun c46 => ?_)
        · skip
          have n46 : (b2n (plB F r)) = 0 := (nI_eq (a := (b2n (plB F r))) (b := 0) (by have := b2n_lt (plB F r); omega) (by have := b2n_lt (plB F r); omega)).mp c46
          refine j_iinc (v := nI (r + 1)) EE 0 [(3, .int (nI (r + 1))), (2, _), (1, _), (0, _)] dX10_bestRule_93 rfl (nI_1 r) (Nat.lt_of_lt_of_eq (by decide) hL.symm) rfl ?_
          refine j_goto EE 31 dX10_bestRule_96 (by decide) ?_
          exact ihp_31 (r + 1) b ls a1 a2 a3 a4 a5 (by omega) (by omega) (by omega) (by unfold bmL; rw [if_neg (by rw [b2n_0 n46]; decide), hb]) hb1 hb3
        · skip
          have n46 : (b2n (plB F r)) ≠ 0 := fun hq => c46 ((nI_eq (a := (b2n (plB F r))) (b := 0) (by have := b2n_lt (plB F r); omega) (by have := b2n_lt (plB F r); omega)).mpr hq)
          have hpr := b2n_ne0 n46
          have hp86 := plB_h hpr
          obtain ⟨nn, o, hq0, o1, o2, o4, o5⟩ := hdr r (by omega) hpr a1 a2 a3 a4 a5 hb1 hb3
          refine j_aload_n EE 3 dX10_bestRule_49 rfl rfl ?_
          refine j_V2 (n9 := 14) EE (c_X10_layPresent h F Q ft B Bt a1 a2 a3 a4 a5 fr W M km le sp ro hFb (by omega)) gX10_bestRule_X10_layPresent ⟨rfl, hd_X10_layPresent⟩ rfl ⟨rfl, rfl⟩ ⟨by decide, by decide⟩ rfl [0, 1, 2, 3, 4, 5, 6, 7, 8, 9, 10, 11, 12, 13] rfl [] [((h 0), .inr (6, [.ref ((h 1)), .ref ((h 2)), .ref ((h 3)), .int (nI km), .ref ((h 4)), .int (nI le), .int (nI sp), .ref ((h 5)), .ref ((h 6)), .int (nI ro), .ref ((h 7)), .ref ((h 8)), .ref ((h 9)), .ref ((h 10)), .ref ((h 11)), .ref ((h 12)), .ref ((h 13))])), ((h 1), .inl (cI, 99, .inl (sA F))), ((h 2), .inl (cI, 99, .inl fr)), ((h 3), .inl (cI, 594, .inl (kA Q))), ((h 4), .inl (cI, 200, .inl (fun zz => nI (ft zz)))), ((h 5), .inl (cI, 12, .inl (fun zz => nI (B zz)))), ((h 6), .inl (cI, 12, .inl (fun zz => nI (Bt zz)))), ((h 7), .inl (cJ, 16, .inr (.inl W))), ((h 8), .inl (cJ, 16, .inr (.inl M))), ((h 9), .inl (cI, 9, .inl (fun zz => nI ((updN a1 0 (F 85)) zz)))), ((h 10), .inl (cI, 9, .inl (fun zz => nI ((updN a2 0 (F 86)) zz)))), ((h 11), .inl (cI, 198, .inl (fun zz => nI ((lpP a3 F (F 86)) zz)))), ((h 12), .inl (cI, 9, .inl (fun zz => nI ((updN a4 0 0) zz)))), ((h 13), .inl (cI, 9, .inl (fA (updN a5 0 0))))] (fun _ => rfl) [] [(h 0), (h 1), (h 2), (h 3), (h 4), (h 5), (h 6), (h 7), (h 8), (h 9), (h 10), (h 11), (h 12), (h 13)] rfl rfl rfl rfl rfl (by decide) (by decide) 0 rfl rfl rfl (Nat.le_of_ble_eq_true rfl) dX10_bestRule_50 (fun u_50 h_50 => ?_) rfl
          refine j_aload_n EE 3 dX10_bestRule_53 rfl rfl ?_
          refine j_iconst (v := nI 0) EE dX10_bestRule_54 (by decide) ?_
          refine j_iload_n EE 0 dX10_bestRule_55 rfl rfl ?_
          refine j_V2 (n9 := 14) EE (c_X10_goes h F Q ft B Bt (updN a1 0 (F 85)) (updN a2 0 (F 86)) (lpP a3 F (F 86)) (updN a4 0 0) (updN a5 0 0) fr W M km le sp ro 0 r hFb (by omega) (by omega) (by rw [updN_s]; omega) (by rw [updN_s]; omega)) gX10_bestRule_X10_goes ⟨rfl, hd_X10_goes⟩ rfl ⟨rfl, rfl⟩ ⟨by decide, by decide⟩ rfl [0, 1, 2, 3, 4, 5, 6, 7, 8, 9, 10, 11, 12, 13] rfl [] [((h 0), .inr (6, [.ref ((h 1)), .ref ((h 2)), .ref ((h 3)), .int (nI km), .ref ((h 4)), .int (nI le), .int (nI sp), .ref ((h 5)), .ref ((h 6)), .int (nI ro), .ref ((h 7)), .ref ((h 8)), .ref ((h 9)), .ref ((h 10)), .ref ((h 11)), .ref ((h 12)), .ref ((h 13))])), ((h 1), .inl (cI, 99, .inl (sA F))), ((h 2), .inl (cI, 99, .inl fr)), ((h 3), .inl (cI, 594, .inl (kA Q))), ((h 4), .inl (cI, 200, .inl (fun zz => nI (ft zz)))), ((h 5), .inl (cI, 12, .inl (fun zz => nI (B zz)))), ((h 6), .inl (cI, 12, .inl (fun zz => nI (Bt zz)))), ((h 7), .inl (cJ, 16, .inr (.inl W))), ((h 8), .inl (cJ, 16, .inr (.inl M))), ((h 9), .inl (cI, 9, .inl (fun zz => nI ((updN (updN a1 0 (F 85)) 1 (F (5 + 5 * r + 2))) zz)))), ((h 10), .inl (cI, 9, .inl (fun zz => nI ((updN (updN a2 0 (F 86)) 1 (goH F (updN a2 0 (F 86)) 0 r)) zz)))), ((h 11), .inl (cI, 198, .inl (fun zz => nI ((goP F (updN a2 0 (F 86)) (lpP a3 F (F 86)) 0 r) zz)))), ((h 12), .inl (cI, 9, .inl (fun zz => nI ((updN (updN a4 0 0) 1 0) zz)))), ((h 13), .inl (cI, 9, .inl (fA (updN (updN a5 0 0) 1 0))))] (fun _ => rfl) [] [(h 0), (h 1), (h 2), (h 3), (h 4), (h 5), (h 6), (h 7), (h 8), (h 9), (h 10), (h 11), (h 12), (h 13)] rfl rfl rfl rfl rfl (by decide) (by decide) 0 rfl rfl rfl (Nat.le_of_ble_eq_true rfl) dX10_bestRule_56 (fun u_56 h_56 => ?_) rfl
          refine j_aload_n EE 3 dX10_bestRule_59 rfl rfl ?_
          refine j_iconst (v := nI 1) EE dX10_bestRule_60 (by decide) ?_
          refine j_bipush (v := nI 7) EE dX10_bestRule_61 (by decide) ?_
          refine j_V2 (n9 := 14) EE (c_X10_distanceFrom h F Q ft B Bt (updN (updN a1 0 (F 85)) 1 (F (5 + 5 * r + 2))) (updN (updN a2 0 (F 86)) 1 (goH F (updN a2 0 (F 86)) 0 r)) (goP F (updN a2 0 (F 86)) (lpP a3 F (F 86)) 0 r) (updN (updN a4 0 0) 1 0) (updN (updN a5 0 0) 1 0) fr W M km le sp ro 1 7 nn o hFb hn (by decide) (by decide) hq0) gX10_bestRule_X10_distanceFrom ⟨rfl, hd_X10_distanceFrom⟩ rfl ⟨rfl, rfl⟩ ⟨by decide, by decide⟩ rfl [0, 1, 2, 3, 4, 5, 6, 7, 8, 9, 10, 11, 12, 13] rfl [] [((h 0), .inr (6, [.ref ((h 1)), .ref ((h 2)), .ref ((h 3)), .int (nI km), .ref ((h 4)), .int (nI le), .int (nI sp), .ref ((h 5)), .ref ((h 6)), .int (nI ro), .ref ((h 7)), .ref ((h 8)), .ref ((h 9)), .ref ((h 10)), .ref ((h 11)), .ref ((h 12)), .ref ((h 13))])), ((h 1), .inl (cI, 99, .inl (sA F))), ((h 2), .inl (cI, 99, .inl fr)), ((h 3), .inl (cI, 594, .inl (kA Q))), ((h 4), .inl (cI, 200, .inl (fun zz => nI (ft zz)))), ((h 5), .inl (cI, 12, .inl (fun zz => nI (B zz)))), ((h 6), .inl (cI, 12, .inl (fun zz => nI (Bt zz)))), ((h 7), .inl (cJ, 16, .inr (.inl W))), ((h 8), .inl (cJ, 16, .inr (.inl M))), ((h 9), .inl (cI, 9, .inl (fun zz => nI (o.2.1 zz)))), ((h 10), .inl (cI, 9, .inl (fun zz => nI (o.2.2.1 zz)))), ((h 11), .inl (cI, 198, .inl (fun zz => nI (o.2.2.2.1 zz)))), ((h 12), .inl (cI, 9, .inl (fun zz => nI (o.2.2.2.2.1 zz)))), ((h 13), .inl (cI, 9, .inl (fA o.2.2.2.2.2)))] (fun _ => rfl) [] [(h 0), (h 1), (h 2), (h 3), (h 4), (h 5), (h 6), (h 7), (h 8), (h 9), (h 10), (h 11), (h 12), (h 13)] rfl rfl rfl rfl rfl (by decide) (by decide) 0 rfl rfl rfl (Nat.le_of_ble_eq_true rfl) dX10_bestRule_63 (fun u_63 h_63 => ?_) rfl
          show J l _ D ε _ _ _ (.int (nI o.1 - nI 1) :: _)
          refine j_topE (y := nI (Dr r)) (by rw [o1]; exact pk_sub (by omega)) ?_
          show J l _ D ε _ _ _ (.int (nI (Dr r)) :: _)
          refine j_istore EE [(4, _), (3, _), (2, _), (1, _), (0, _)] dX10_bestRule_66 (Nat.lt_of_lt_of_eq (by decide) hL.symm) rfl ?_
          refine j_iload EE 0 dX10_bestRule_68 rfl ?_
          refine j_iload_n EE 2 dX10_bestRule_70 rfl rfl ?_
          refine j_icmp_ge EE 78 dX10_bestRule_71 (by decide) (fun c71 => ?_) (fun c71 => ?_)
          · skip
            have n71 : ls ≤ (Dr r) := (nI_leI (a := ls) (b := (Dr r)) (by omega) (by omega)).mp c71
            refine j_iload_n EE 3 dX10_bestRule_78 rfl rfl ?_
            refine j_istore_n EE [(1, _), (4, _), (3, _), (2, _), (0, _)] dX10_bestRule_79 rfl (Nat.lt_of_lt_of_eq (by decide) hL.symm) rfl ?_
            refine j_iload EE 1 dX10_bestRule_80 rfl ?_
            refine j_iload_n EE 3 dX10_bestRule_82 rfl rfl ?_
            refine j_icmp_ge EE 91 dX10_bestRule_83 (by decide) (fun c83 => ?_) (fun c83 => absurd ((nI_leI (a := ls) (b := Dr r) (by omega) (by omega)).mpr (by omega)) c83)
            have n83 : ls ≤ (Dr r) := (nI_leI (a := ls) (b := (Dr r)) (by omega) (by omega)).mp c83
            refine j_iload_n EE 3 dX10_bestRule_91 rfl rfl ?_
            refine j_istore_n EE [(2, _), (1, _), (4, _), (3, _), (0, _)] dX10_bestRule_92 rfl (Nat.lt_of_lt_of_eq (by decide) hL.symm) rfl ?_
            refine j_iinc (v := nI (r + 1)) EE 3 [(3, .int (nI (r + 1))), (2, _), (1, _), (4, _), (0, _)] dX10_bestRule_93 rfl (nI_1 r) (Nat.lt_of_lt_of_eq (by decide) hL.symm) rfl ?_
            refine j_goto EE 31 dX10_bestRule_96 (by decide) ?_
            refine j_lv [0, 1, 2, 4] rfl ?_
            exact ihp_31 (r + 1) b ls o.2.1 o.2.2.1 o.2.2.2.1 o.2.2.2.2.1 o.2.2.2.2.2 (by omega) (by omega) (by omega) (by unfold bmL; rw [if_pos hpr, hb, if_neg (by omega)]) o4 o5
          · skip
            have n71 : ¬ ls ≤ (Dr r) := fun hq => c71 ((nI_leI (a := ls) (b := (Dr r)) (by omega) (by omega)).mpr hq)
            refine j_iload_n EE 1 dX10_bestRule_74 rfl rfl ?_
            refine j_goto EE 79 dX10_bestRule_75 (by decide) ?_
            refine j_istore_n EE [(1, _), (4, _), (3, _), (2, _), (0, _)] dX10_bestRule_79 rfl (Nat.lt_of_lt_of_eq (by decide) hL.symm) rfl ?_
            refine j_iload EE 1 dX10_bestRule_80 rfl ?_
            refine j_iload_n EE 3 dX10_bestRule_82 rfl rfl ?_
            refine j_icmp_ge EE 91 dX10_bestRule_83 (by decide) (fun c83 => absurd ((nI_leI (a := ls) (b := Dr r) (by omega) (by omega)).mp c83) (by omega)) (fun c83 => ?_)
            have n83 : ¬ ls ≤ (Dr r) := fun hq => c83 ((nI_leI (a := ls) (b := (Dr r)) (by omega) (by omega)).mpr hq)
            refine j_iload EE 1 dX10_bestRule_86 rfl ?_
            refine j_goto EE 92 dX10_bestRule_88 (by decide) ?_
            refine j_istore_n EE [(2, _), (1, _), (4, _), (3, _), (0, _)] dX10_bestRule_92 rfl (Nat.lt_of_lt_of_eq (by decide) hL.symm) rfl ?_
            refine j_iinc (v := nI (r + 1)) EE 3 [(3, .int (nI (r + 1))), (2, _), (1, _), (4, _), (0, _)] dX10_bestRule_93 rfl (nI_1 r) (Nat.lt_of_lt_of_eq (by decide) hL.symm) rfl ?_
            refine j_goto EE 31 dX10_bestRule_96 (by decide) ?_
            refine j_lv [0, 1, 2, 4] rfl ?_
            exact ihp_31 (r + 1) (some r) (Dr r) o.2.1 o.2.2.1 o.2.2.2.1 o.2.2.2.2.1 o.2.2.2.2.2 (by omega) (by omega) (by omega) (by unfold bmL; rw [if_pos hpr, hb, if_pos (by omega)]) o4 o5
  refine j_aload_n EE 0 dX10_bestRule_0 rfl rfl ?_
  refine j_get (T := TX10) EE iw_X10_bestRule_X10 0 rfl rfl 0 (by decide) lk_X10_bestRule_7 rfl dX10_bestRule_1 ?_
  refine j_iconst (v := nI 2) EE dX10_bestRule_4 (by decide) ?_
  refine j_iald EE 1 0 rfl rfl (vp_in_nI (n := 2) (by omega) (by decide)) dX10_bestRule_5 ?_
  refine j_topE (congrArg (sA F) (nI_clamp (n := 2) (by omega))) ?_
  refine j_topE (y := nI (F 2)) (sA_n (by omega)) ?_
  refine j_aload_n EE 0 dX10_bestRule_6 rfl rfl ?_
  refine j_get (T := TX10) EE iw_X10_bestRule_X10 0 rfl rfl 0 (by decide) lk_X10_bestRule_7 rfl dX10_bestRule_7 ?_
  refine j_bipush (v := nI 85) EE dX10_bestRule_10 (by decide) ?_
  refine j_iald EE 1 0 rfl rfl (vp_in_nI (n := 85) (by omega) (by decide)) dX10_bestRule_12 ?_
  refine j_topE (congrArg (sA F) (nI_clamp (n := 85) (by omega))) ?_
  refine j_topE (y := nI (F 85)) (sA_n (by omega)) ?_
  refine j_S2 (n9 := 14) EE (c_X10_has (F 2) (F 85) (by have := hFb 2; have := hFb 85; omega) (by have := hFb 2; have := hFb 85; omega)) gX10_bestRule_X10_has hd_X10_has rfl ⟨rfl, rfl⟩ ⟨by decide, by decide⟩ rfl [] rfl [0, 1, 2, 3, 4, 5, 6, 7, 8, 9, 10, 11, 12, 13] [((h 0), .inr (6, [.ref ((h 1)), .ref ((h 2)), .ref ((h 3)), .int (nI km), .ref ((h 4)), .int (nI le), .int (nI sp), .ref ((h 5)), .ref ((h 6)), .int (nI ro), .ref ((h 7)), .ref ((h 8)), .ref ((h 9)), .ref ((h 10)), .ref ((h 11)), .ref ((h 12)), .ref ((h 13))])), ((h 1), .inl (cI, 99, .inl (sA F))), ((h 2), .inl (cI, 99, .inl fr)), ((h 3), .inl (cI, 594, .inl (kA Q))), ((h 4), .inl (cI, 200, .inl (fun zz => nI (ft zz)))), ((h 5), .inl (cI, 12, .inl (fun zz => nI (B zz)))), ((h 6), .inl (cI, 12, .inl (fun zz => nI (Bt zz)))), ((h 7), .inl (cJ, 16, .inr (.inl W))), ((h 8), .inl (cJ, 16, .inr (.inl M))), ((h 9), .inl (cI, 9, .inl (fun zz => nI (a1 zz)))), ((h 10), .inl (cI, 9, .inl (fun zz => nI (a2 zz)))), ((h 11), .inl (cI, 198, .inl (fun zz => nI (a3 zz)))), ((h 12), .inl (cI, 9, .inl (fun zz => nI (a4 zz)))), ((h 13), .inl (cI, 9, .inl (fA a5)))] (fun _ => rfl) [((h 0), .inr (6, [.ref ((h 1)), .ref ((h 2)), .ref ((h 3)), .int (nI km), .ref ((h 4)), .int (nI le), .int (nI sp), .ref ((h 5)), .ref ((h 6)), .int (nI ro), .ref ((h 7)), .ref ((h 8)), .ref ((h 9)), .ref ((h 10)), .ref ((h 11)), .ref ((h 12)), .ref ((h 13))])), ((h 1), .inl (cI, 99, .inl (sA F))), ((h 2), .inl (cI, 99, .inl fr)), ((h 3), .inl (cI, 594, .inl (kA Q))), ((h 4), .inl (cI, 200, .inl (fun zz => nI (ft zz)))), ((h 5), .inl (cI, 12, .inl (fun zz => nI (B zz)))), ((h 6), .inl (cI, 12, .inl (fun zz => nI (Bt zz)))), ((h 7), .inl (cJ, 16, .inr (.inl W))), ((h 8), .inl (cJ, 16, .inr (.inl M))), ((h 9), .inl (cI, 9, .inl (fun zz => nI (a1 zz)))), ((h 10), .inl (cI, 9, .inl (fun zz => nI (a2 zz)))), ((h 11), .inl (cI, 198, .inl (fun zz => nI (a3 zz)))), ((h 12), .inl (cI, 9, .inl (fun zz => nI (a4 zz)))), ((h 13), .inl (cI, 9, .inl (fA a5)))] [(h 0), (h 1), (h 2), (h 3), (h 4), (h 5), (h 6), (h 7), (h 8), (h 9), (h 10), (h 11), (h 12), (h 13)] rfl rfl rfl rfl rfl (by decide) (by decide) rfl (Nat.le_of_ble_eq_true rfl) dX10_bestRule_13 (fun u_13 h_13 => ?_) rfl
  show J l _ D ε _ _ _ (.int (nI (bt (F 2) (F 85))) :: _)
  refine j_if_eq EE 22 dX10_bestRule_16 (by decide) (fun c16 => ?_) (fun c16 => absurd (bz_1 (fun z => c16 (by rw [z]; rfl))) hop)
  have n16 : (bt (F 2) (F 85)) = 0 := (nI_eq (a := (bt (F 2) (F 85))) (b := 0) (by have := bt_lt (F 2) (F 85); omega) (by have := bt_lt (F 2) (F 85); omega)).mp c16
  refine j_bipush (v := (-4)) EE dX10_bestRule_22 (by decide) ?_
  refine j_topE (y := oI none) rfl ?_
  refine j_istore_n EE [(1, _), (0, _)] dX10_bestRule_24 rfl (Nat.lt_of_lt_of_eq (by decide) hL.symm) rfl ?_
  refine j_sipush (v := nI 1000) EE dX10_bestRule_25 (by decide) ?_
  refine j_istore_n EE [(2, _), (1, _), (0, _)] dX10_bestRule_28 rfl (Nat.lt_of_lt_of_eq (by decide) hL.symm) rfl ?_
  refine j_iconst (v := nI 0) EE dX10_bestRule_29 (by decide) ?_
  refine j_istore_n EE [(3, _), (2, _), (1, _), (0, _)] dX10_bestRule_30 rfl (Nat.lt_of_lt_of_eq (by decide) hL.symm) rfl ?_
  exact Lp_31 _ 0 none 1000 a1 a2 a3 a4 a5 (Nat.lt_succ_self _) (by omega) (by omega) rfl hb1 hb3

end G_48_mod9
