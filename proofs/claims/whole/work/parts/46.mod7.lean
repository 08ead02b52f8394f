section G_46_mod7
variable {l : Launch} {D : va_G} {cI cC cJ cG : ClassId}

def grZ (aa : Nat → Nat → Nat) (w : Int64) (s : Nat) (M : Nat → Int64) (y : Nat) : Nat → Int64 := if w ≤ lN 0 then M else grY aa w s M y
theorem grZ_0 (aa : Nat → Nat → Nat) (w : Int64) (s : Nat) (M : Nat → Int64) : grZ aa w s M 0 = M := by
  unfold grZ
  split <;> rfl
theorem grZ_z {aa : Nat → Nat → Nat} {w : Int64} {s : Nat} {M : Nat → Int64} {y z : Nat} (h : w ≤ lN 0) : grZ aa w s M y = grZ aa w s M z := by
  unfold grZ
  rw [if_pos h, if_pos h]
theorem grZ_s {aa : Nat → Nat → Nat} {w : Int64} {s : Nat} {M : Nat → Int64} {y : Nat} (h : ¬ w ≤ lN 0) : vp_updL (grZ aa w s M y) (aa s y) (grZ aa w s M y (aa s y) + w) = grZ aa w s M (y + 1) := by
  unfold grZ
  rw [if_neg h, if_neg h]
  rfl
def mS (aa : Nat → Nat → Nat) (W : Nat → Int64) (Y : Nat) (M : Nat → Int64) : Nat → (Nat → Int64)
  | 0 => M
  | s + 1 => grZ aa (W s) s (mS aa W Y M s) Y
def aaM (F B : Nat → Nat) : Nat → Nat → Nat := fun u y => acO (F 3) B y u (F 0)
def mW1 (F B : Nat → Nat) (W M : Nat → Int64) : Nat → Int64 := mS (aaM F B) W (F 1) (zrL M 16) 16
def ctM (F B : Nat → Nat) : Nat → (Nat → Int64) → (Nat → Int64) → (Nat → Int64) × (Nat → Int64)
  | 0, W, M => (W, M)
  | z + 1, W, M => (cpyL (mW1 F B (ctM F B z W M).1 (ctM F B z W M).2) (ctM F B z W M).1 16, mW1 F B (ctM F B z W M).1 (ctM F B z W M).2)
theorem cpyL_0 (f g : Nat → Int64) : cpyL f g 0 = g := by funext i; unfold cpyL; rw [if_neg (by omega)]
theorem cpyL_s (f g : Nat → Int64) (k : Nat) : vp_updL (cpyL f g k) k (f k) = cpyL f g (k + 1) := by
  funext i
  unfold vp_updL cpyL
  by_cases h : i = k
  · subst h; rw [if_pos rfl, if_pos (by omega)]
  · rw [if_neg h]
    by_cases h2 : i < k
    · rw [if_pos h2, if_pos (by omega)]
    · rw [if_neg h2, if_neg (by omega)]
theorem in_61 (x : Int32) : (if lN 0 ≤ x.toInt64 ∧ x.toInt64 ≤ (60 : Int64) then nI 1 else nI 0) = nI (b2n (inR x 61)) := by
  have h := in_inR (n := 61) x (by decide)
  have h2 : (nI 61 - nI 1).toInt64 = (60 : Int64) := by decide
  rw [h2] at h
  exact h

theorem mw_X10_winningStacks_c158 : Cond.constantLong RX10 158 (-1) ∈ wsX10_winningStacks := List.mem_of_getElem? (i := 2) rfl
theorem mw_X10_winningStacks_c156 : Cond.constantLong RX10 156 (60) ∈ wsX10_winningStacks := List.mem_of_getElem? (i := 1) rfl
set_option maxHeartbeats 4000000 in
set_option maxRecDepth 100000 in
theorem c_X10_winningStacksE (h F Q ft B Bt a1 a2 a3 a4 a5 : Nat → Nat) (fr : Nat → Int32) (W M : Nat → Int64) (km le sp ro : Nat) (x y : Int32) (hFb : ∀ i, F i < 65536) (hi : inR x (F 0) = false ∨ inR y 61 = false) : Ct l yX10_winningStacks wsX10_winningStacks (rmD (6)) D [(cI, .int), (cC, .char), (cJ, .long), (cG, .object "PushdownGameSolver$Game")] [.ref ((h 0)), .int (x), .int (y)] [((h 0), .inr (6, [.ref ((h 1)), .ref ((h 2)), .ref ((h 3)), .int (nI km), .ref ((h 4)), .int (nI le), .int (nI sp), .ref ((h 5)), .ref ((h 6)), .int (nI ro), .ref ((h 7)), .ref ((h 8)), .ref ((h 9)), .ref ((h 10)), .ref ((h 11)), .ref ((h 12)), .ref ((h 13))])), ((h 1), .inl (cI, 99, .inl (sA F))), ((h 2), .inl (cI, 99, .inl fr)), ((h 3), .inl (cI, 594, .inl (kA Q))), ((h 4), .inl (cI, 200, .inl (fun zz => nI (ft zz)))), ((h 5), .inl (cI, 12, .inl (fun zz => nI (B zz)))), ((h 6), .inl (cI, 12, .inl (fun zz => nI (Bt zz)))), ((h 7), .inl (cJ, 16, .inr (.inl W))), ((h 8), .inl (cJ, 16, .inr (.inl M))), ((h 9), .inl (cI, 9, .inl (fun zz => nI (a1 zz)))), ((h 10), .inl (cI, 9, .inl (fun zz => nI (a2 zz)))), ((h 11), .inl (cI, 198, .inl (fun zz => nI (a3 zz)))), ((h 12), .inl (cI, 9, .inl (fun zz => nI (a4 zz)))), ((h 13), .inl (cI, 9, .inl (fA a5)))] (S := Unit) (fun _ => True) (fun _ => some (.long ((-1)))) (fun _ => [((h 0), .inr (6, [.ref ((h 1)), .ref ((h 2)), .ref ((h 3)), .int (nI km), .ref ((h 4)), .int (nI le), .int (nI sp), .ref ((h 5)), .ref ((h 6)), .int (nI ro), .ref ((h 7)), .ref ((h 8)), .ref ((h 9)), .ref ((h 10)), .ref ((h 11)), .ref ((h 12)), .ref ((h 13))])), ((h 1), .inl (cI, 99, .inl (sA F))), ((h 2), .inl (cI, 99, .inl fr)), ((h 3), .inl (cI, 594, .inl (kA Q))), ((h 4), .inl (cI, 200, .inl (fun zz => nI (ft zz)))), ((h 5), .inl (cI, 12, .inl (fun zz => nI (B zz)))), ((h 6), .inl (cI, 12, .inl (fun zz => nI (Bt zz)))), ((h 7), .inl (cJ, 16, .inr (.inl W))), ((h 8), .inl (cJ, 16, .inr (.inl M))), ((h 9), .inl (cI, 9, .inl (fun zz => nI (a1 zz)))), ((h 10), .inl (cI, 9, .inl (fun zz => nI (a2 zz)))), ((h 11), .inl (cI, 198, .inl (fun zz => nI (a3 zz)))), ((h 12), .inl (cI, 9, .inl (fun zz => nI (a4 zz)))), ((h 13), .inl (cI, 9, .inl (fA a5)))]) := by
  refine Ct.of (lv := [(0, .ref ((h 0))), (1, .int (x)), (2, .int (y))]) (by decide) rfl (Nat.le_of_ble_eq_true rfl) rfl ?_
  intro ε hL EE FF
  refine j_aload_n EE 0 dX10_winningStacks_0 rfl rfl ?_
  refine j_iload_n EE 1 dX10_winningStacks_1 rfl rfl ?_
  refine j_V2 (n9 := 14) EE (c_X10_isState h F Q ft B Bt a1 a2 a3 a4 a5 fr W M km le sp ro x hFb) gX10_winningStacks_X10_isState ⟨rfl, hd_X10_isState⟩ rfl ⟨rfl, rfl⟩ ⟨by decide, by decide⟩ rfl [0, 1, 2, 3, 4, 5, 6, 7, 8, 9, 10, 11, 12, 13] rfl [] [((h 0), .inr (6, [.ref ((h 1)), .ref ((h 2)), .ref ((h 3)), .int (nI km), .ref ((h 4)), .int (nI le), .int (nI sp), .ref ((h 5)), .ref ((h 6)), .int (nI ro), .ref ((h 7)), .ref ((h 8)), .ref ((h 9)), .ref ((h 10)), .ref ((h 11)), .ref ((h 12)), .ref ((h 13))])), ((h 1), .inl (cI, 99, .inl (sA F))), ((h 2), .inl (cI, 99, .inl fr)), ((h 3), .inl (cI, 594, .inl (kA Q))), ((h 4), .inl (cI, 200, .inl (fun zz => nI (ft zz)))), ((h 5), .inl (cI, 12, .inl (fun zz => nI (B zz)))), ((h 6), .inl (cI, 12, .inl (fun zz => nI (Bt zz)))), ((h 7), .inl (cJ, 16, .inr (.inl W))), ((h 8), .inl (cJ, 16, .inr (.inl M))), ((h 9), .inl (cI, 9, .inl (fun zz => nI (a1 zz)))), ((h 10), .inl (cI, 9, .inl (fun zz => nI (a2 zz)))), ((h 11), .inl (cI, 198, .inl (fun zz => nI (a3 zz)))), ((h 12), .inl (cI, 9, .inl (fun zz => nI (a4 zz)))), ((h 13), .inl (cI, 9, .inl (fA a5)))] (fun _ => rfl) [] [(h 0), (h 1), (h 2), (h 3), (h 4), (h 5), (h 6), (h 7), (h 8), (h 9), (h 10), (h 11), (h 12), (h 13)] rfl rfl rfl rfl rfl (by decide) (by decide) 0 rfl rfl rfl (Nat.le_of_ble_eq_true rfl) dX10_winningStacks_2 (fun u_2 h_2 => ?_) rfl
  show J l _ D ε _ _ _ (.int (nI (b2n (inR x (F 0)))) :: _)
  refine j_if_eq EE 20 dX10_winningStacks_5 (by decide) (fun c5 => ?_) (fun c5 => ?_)
  · skip
    have n5 : (b2n (inR x (F 0))) = 0 := (nI_eq (a := (b2n (inR x (F 0)))) (b := 0) (by have := b2n_lt (inR x (F 0)); omega) (by have := b2n_lt (inR x (F 0)); omega)).mp c5
    refine j_ldc2 EE mw_X10_winningStacks_c158 dX10_winningStacks_20 ?_
    exact j_lret EE FF dX10_winningStacks_23 () trivial (by first | rfl | simp_all) rfl
  · skip
    have n5 : (b2n (inR x (F 0))) ≠ 0 := fun hq => c5 ((nI_eq (a := (b2n (inR x (F 0)))) (b := 0) (by have := b2n_lt (inR x (F 0)); omega) (by have := b2n_lt (inR x (F 0)); omega)).mpr hq)
    refine j_iload_n EE 2 dX10_winningStacks_8 rfl rfl ?_
    refine j_i2l EE dX10_winningStacks_9 ?_
    refine j_lconst (v := lN 0) EE dX10_winningStacks_10 (by decide) ?_
    refine j_ldc2 EE mw_X10_winningStacks_c156 dX10_winningStacks_11 ?_
    refine j_S2 (n9 := 14) EE (c_X10_in ((y).toInt64) (lN 0) (60)) gX10_winningStacks_X10_in hd_X10_in rfl ⟨rfl, rfl⟩ ⟨by decide, by decide⟩ rfl [] rfl [0, 1, 2, 3, 4, 5, 6, 7, 8, 9, 10, 11, 12, 13] [((h 0), .inr (6, [.ref ((h 1)), .ref ((h 2)), .ref ((h 3)), .int (nI km), .ref ((h 4)), .int (nI le), .int (nI sp), .ref ((h 5)), .ref ((h 6)), .int (nI ro), .ref ((h 7)), .ref ((h 8)), .ref ((h 9)), .ref ((h 10)), .ref ((h 11)), .ref ((h 12)), .ref ((h 13))])), ((h 1), .inl (cI, 99, .inl (sA F))), ((h 2), .inl (cI, 99, .inl fr)), ((h 3), .inl (cI, 594, .inl (kA Q))), ((h 4), .inl (cI, 200, .inl (fun zz => nI (ft zz)))), ((h 5), .inl (cI, 12, .inl (fun zz => nI (B zz)))), ((h 6), .inl (cI, 12, .inl (fun zz => nI (Bt zz)))), ((h 7), .inl (cJ, 16, .inr (.inl W))), ((h 8), .inl (cJ, 16, .inr (.inl M))), ((h 9), .inl (cI, 9, .inl (fun zz => nI (a1 zz)))), ((h 10), .inl (cI, 9, .inl (fun zz => nI (a2 zz)))), ((h 11), .inl (cI, 198, .inl (fun zz => nI (a3 zz)))), ((h 12), .inl (cI, 9, .inl (fun zz => nI (a4 zz)))), ((h 13), .inl (cI, 9, .inl (fA a5)))] (fun _ => rfl) [((h 0), .inr (6, [.ref ((h 1)), .ref ((h 2)), .ref ((h 3)), .int (nI km), .ref ((h 4)), .int (nI le), .int (nI sp), .ref ((h 5)), .ref ((h 6)), .int (nI ro), .ref ((h 7)), .ref ((h 8)), .ref ((h 9)), .ref ((h 10)), .ref ((h 11)), .ref ((h 12)), .ref ((h 13))])), ((h 1), .inl (cI, 99, .inl (sA F))), ((h 2), .inl (cI, 99, .inl fr)), ((h 3), .inl (cI, 594, .inl (kA Q))), ((h 4), .inl (cI, 200, .inl (fun zz => nI (ft zz)))), ((h 5), .inl (cI, 12, .inl (fun zz => nI (B zz)))), ((h 6), .inl (cI, 12, .inl (fun zz => nI (Bt zz)))), ((h 7), .inl (cJ, 16, .inr (.inl W))), ((h 8), .inl (cJ, 16, .inr (.inl M))), ((h 9), .inl (cI, 9, .inl (fun zz => nI (a1 zz)))), ((h 10), .inl (cI, 9, .inl (fun zz => nI (a2 zz)))), ((h 11), .inl (cI, 198, .inl (fun zz => nI (a3 zz)))), ((h 12), .inl (cI, 9, .inl (fun zz => nI (a4 zz)))), ((h 13), .inl (cI, 9, .inl (fA a5)))] [(h 0), (h 1), (h 2), (h 3), (h 4), (h 5), (h 6), (h 7), (h 8), (h 9), (h 10), (h 11), (h 12), (h 13)] rfl rfl rfl rfl rfl (by decide) (by decide) rfl (Nat.le_of_ble_eq_true rfl) dX10_winningStacks_14 (fun u_14 h_14 => ?_) rfl
    show J l _ D ε _ _ _ (.int (if lN 0 ≤ (y).toInt64 ∧ (y).toInt64 ≤ (60) then nI 1 else nI 0) :: _)
    refine j_topE (y := nI (b2n (inR y 61))) (in_61 y) ?_
    show J l _ D ε _ _ _ (.int (nI (b2n (inR y 61))) :: _)
    refine j_if_ne EE 24 dX10_winningStacks_17 (by decide) (fun c17 => absurd (by rw [hi.resolve_left (by rw [b2n_ne0 n5]; decide)]; rfl) c17) (fun c17 => ?_)
    have n17 : (b2n (inR y 61)) = 0 := (nI_eq (a := (b2n (inR y 61))) (b := 0) (by have := b2n_lt (inR y 61); omega) (by have := b2n_lt (inR y 61); omega)).mp c17
    refine j_ldc2 EE mw_X10_winningStacks_c158 dX10_winningStacks_20 ?_
    exact j_lret EE FF dX10_winningStacks_23 () trivial (by first | rfl | simp_all) rfl

theorem mw_X10_winningStacks_c160 : Cond.constantLong RX10 160 (9223372036854775807) ∈ wsX10_winningStacks := List.mem_of_getElem? (i := 3) rfl
theorem iw_X10_winningStacks_X10 : ∀ w ∈ wsX100, w ∈ wsX10_winningStacks := fun _ h => List.mem_cons_of_mem _ (List.mem_append_right _ h)
theorem lk_X10_winningStacks_7 : Cond.fieldLink RX10 7 (TX10 0).1 (TX10 0).2.1 (TX10 0).2.2.1 ∈ wsX10_winningStacks := List.mem_of_getElem? (i := 4) rfl
theorem mw_X10_winningStacks_c162 : Cond.constantLong RX10 162 (-5) ∈ wsX10_winningStacks := List.mem_of_getElem? (i := 5) rfl
set_option maxHeartbeats 4000000 in
set_option maxRecDepth 100000 in
theorem c_X10_winningStacksO (h F Q ft B Bt a1 a2 a3 a4 a5 : Nat → Nat) (fr : Nat → Int32) (W M : Nat → Int64) (km le sp ro : Nat) (hFb : ∀ i, F i < 65536) (hY : F 1 ≤ 3) (j z : Nat) (hj : j < F 0) (hz : z ≤ 60) (hY1 : 1 ≤ F 1) (hf : fitL (F 1) z = false) : Ct l yX10_winningStacks wsX10_winningStacks (rmD (6)) D [(cI, .int), (cC, .char), (cJ, .long), (cG, .object "PushdownGameSolver$Game")] [.ref ((h 0)), .int (nI j), .int (nI z)] [((h 0), .inr (6, [.ref ((h 1)), .ref ((h 2)), .ref ((h 3)), .int (nI km), .ref ((h 4)), .int (nI le), .int (nI sp), .ref ((h 5)), .ref ((h 6)), .int (nI ro), .ref ((h 7)), .ref ((h 8)), .ref ((h 9)), .ref ((h 10)), .ref ((h 11)), .ref ((h 12)), .ref ((h 13))])), ((h 1), .inl (cI, 99, .inl (sA F))), ((h 2), .inl (cI, 99, .inl fr)), ((h 3), .inl (cI, 594, .inl (kA Q))), ((h 4), .inl (cI, 200, .inl (fun zz => nI (ft zz)))), ((h 5), .inl (cI, 12, .inl (fun zz => nI (B zz)))), ((h 6), .inl (cI, 12, .inl (fun zz => nI (Bt zz)))), ((h 7), .inl (cJ, 16, .inr (.inl W))), ((h 8), .inl (cJ, 16, .inr (.inl M))), ((h 9), .inl (cI, 9, .inl (fun zz => nI (a1 zz)))), ((h 10), .inl (cI, 9, .inl (fun zz => nI (a2 zz)))), ((h 11), .inl (cI, 198, .inl (fun zz => nI (a3 zz)))), ((h 12), .inl (cI, 9, .inl (fun zz => nI (a4 zz)))), ((h 13), .inl (cI, 9, .inl (fA a5)))] (S := Unit) (fun _ => True) (fun _ => some (.long ((-5)))) (fun _ => [((h 0), .inr (6, [.ref ((h 1)), .ref ((h 2)), .ref ((h 3)), .int (nI km), .ref ((h 4)), .int (nI le), .int (nI sp), .ref ((h 5)), .ref ((h 6)), .int (nI ro), .ref ((h 7)), .ref ((h 8)), .ref ((h 9)), .ref ((h 10)), .ref ((h 11)), .ref ((h 12)), .ref ((h 13))])), ((h 1), .inl (cI, 99, .inl (sA F))), ((h 2), .inl (cI, 99, .inl fr)), ((h 3), .inl (cI, 594, .inl (kA Q))), ((h 4), .inl (cI, 200, .inl (fun zz => nI (ft zz)))), ((h 5), .inl (cI, 12, .inl (fun zz => nI (B zz)))), ((h 6), .inl (cI, 12, .inl (fun zz => nI (Bt zz)))), ((h 7), .inl (cJ, 16, .inr (.inl W))), ((h 8), .inl (cJ, 16, .inr (.inl M))), ((h 9), .inl (cI, 9, .inl (fun zz => nI (a1 zz)))), ((h 10), .inl (cI, 9, .inl (fun zz => nI (a2 zz)))), ((h 11), .inl (cI, 198, .inl (fun zz => nI (a3 zz)))), ((h 12), .inl (cI, 9, .inl (fun zz => nI (a4 zz)))), ((h 13), .inl (cI, 9, .inl (fA a5)))]) := by
  refine Ct.of (lv := [(0, .ref ((h 0))), (1, .int (nI j)), (2, .int (nI z))]) (by decide) rfl (Nat.le_of_ble_eq_true rfl) rfl ?_
  intro ε hL EE FF
  have hb9 := hFb 0
  have Lp_29 : ∀ (nf : Nat), ∀ (i : Nat), 60 - i < nf → (i ≤ z) → (fitL (F 1) i = true) → (F 1 ^ i ≤ MAXL) → J l (rmD (6)) D ε [((h 0), .inr (6, [.ref ((h 1)), .ref ((h 2)), .ref ((h 3)), .int (nI km), .ref ((h 4)), .int (nI le), .int (nI sp), .ref ((h 5)), .ref ((h 6)), .int (nI ro), .ref ((h 7)), .ref ((h 8)), .ref ((h 9)), .ref ((h 10)), .ref ((h 11)), .ref ((h 12)), .ref ((h 13))])), ((h 1), .inl (cI, 99, .inl (sA F))), ((h 2), .inl (cI, 99, .inl fr)), ((h 3), .inl (cI, 594, .inl (kA Q))), ((h 4), .inl (cI, 200, .inl (fun zz => nI (ft zz)))), ((h 5), .inl (cI, 12, .inl (fun zz => nI (B zz)))), ((h 6), .inl (cI, 12, .inl (fun zz => nI (Bt zz)))), ((h 7), .inl (cJ, 16, .inr (.inl W))), ((h 8), .inl (cJ, 16, .inr (.inl M))), ((h 9), .inl (cI, 9, .inl (fun zz => nI (a1 zz)))), ((h 10), .inl (cI, 9, .inl (fun zz => nI (a2 zz)))), ((h 11), .inl (cI, 198, .inl (fun zz => nI (a3 zz)))), ((h 12), .inl (cI, 9, .inl (fun zz => nI (a4 zz)))), ((h 13), .inl (cI, 9, .inl (fA a5)))] 29 [(5, .int (nI i)), (3, .long (lN (F 1 ^ i))), (0, .ref ((h 0))), (1, .int (nI j)), (2, .int (nI z))] [] := by
    intro nf
    induction nf with
    | zero => intro i hm; exact absurd hm (Nat.not_lt_zero _)
    | succ nf ihp_29 =>
      intro i hm29 hi hk hp
      refine j_iload EE 0 dX10_winningStacks_29 rfl ?_
      refine j_iload_n EE 4 dX10_winningStacks_31 rfl rfl ?_
      refine j_icmp_ge EE 71 dX10_winningStacks_32 (by decide) (fun c32 => ?_) (fun c32 => ?_)
      · skip
        have n32 : z ≤ i := (nI_leI (a := z) (b := i) (by omega) (by omega)).mp c32
        exfalso
        rw [show z = i by omega, hk] at hf
        cases hf
      · skip
        have n32 : ¬ z ≤ i := fun hq => c32 ((nI_leI (a := z) (b := i) (by omega) (by omega)).mpr hq)
        refine j_lload_n EE 1 dX10_winningStacks_35 rfl rfl ?_
        refine j_ldc2 EE mw_X10_winningStacks_c160 dX10_winningStacks_36 ?_
        refine j_aload_n EE 2 dX10_winningStacks_39 rfl rfl ?_
        refine j_get (T := TX10) EE iw_X10_winningStacks_X10 0 rfl rfl 0 (by decide) lk_X10_winningStacks_7 rfl dX10_winningStacks_40 ?_
        refine j_iconst (v := nI 1) EE dX10_winningStacks_43 (by decide) ?_
        refine j_iald EE 1 0 rfl rfl (vp_in_nI (n := 1) (by omega) (by decide)) dX10_winningStacks_44 ?_
        refine j_topE (congrArg (sA F) (nI_clamp (n := 1) (by omega))) ?_
        refine j_topE (y := nI (F 1)) (sA_n (by omega)) ?_
        refine j_i2l EE dX10_winningStacks_45 ?_
        refine j_topEl (y := lN (F 1)) (i2l_n (by omega)) ?_
        refine j_ldiv EE (fun hz9 => absurd ((pk_lEQ (b := 0) (by omega) (by decide)).mp hz9) (by omega)) dX10_winningStacks_46 ?_
        refine j_topEl (y := lN (MAXL / F 1)) (by rw [maxl_e]; exact pk_lDiv (by decide) (by omega) (by omega)) ?_
        refine j_lcmp EE dX10_winningStacks_47 ?_
        refine j_if_le EE 55 dX10_winningStacks_48 (by decide) (fun c48 => ?_) (fun c48 => ?_)
        · skip
          have m48 : F 1 ^ i ≤ MAXL / F 1 := (pk_lLE (by unfold MAXL at hp; omega) (Nat.lt_of_le_of_lt (Nat.div_le_self _ _) (by decide))).mp ((lg_cmp_le _ _).mp c48)
          refine j_lload_n EE 1 dX10_winningStacks_55 rfl rfl ?_
          refine j_aload_n EE 2 dX10_winningStacks_56 rfl rfl ?_
          refine j_get (T := TX10) EE iw_X10_winningStacks_X10 0 rfl rfl 0 (by decide) lk_X10_winningStacks_7 rfl dX10_winningStacks_57 ?_
          refine j_iconst (v := nI 1) EE dX10_winningStacks_60 (by decide) ?_
          refine j_iald EE 1 0 rfl rfl (vp_in_nI (n := 1) (by omega) (by decide)) dX10_winningStacks_61 ?_
          refine j_topE (congrArg (sA F) (nI_clamp (n := 1) (by omega))) ?_
          refine j_topE (y := nI (F 1)) (sA_n (by omega)) ?_
          refine j_i2l EE dX10_winningStacks_62 ?_
          refine j_topEl (y := lN (F 1)) (i2l_n (by omega)) ?_
          refine j_lmul EE dX10_winningStacks_63 ?_
          refine j_topEl (y := lN (F 1 ^ (i + 1))) (by rw [lN_mul, Nat.pow_succ]) ?_
          refine j_lstore_n EE [(3, _), (5, _), (0, _), (1, _), (2, _)] dX10_winningStacks_64 rfl (Nat.lt_of_lt_of_eq (by decide) hL.symm) rfl ?_
          refine j_iinc (v := nI (i + 1)) EE 1 [(5, .int (nI (i + 1))), (3, _), (0, _), (1, _), (2, _)] dX10_winningStacks_65 rfl (nI_1 i) (Nat.lt_of_lt_of_eq (by decide) hL.symm) rfl ?_
          refine j_goto EE 29 dX10_winningStacks_68 (by decide) ?_
          exact ihp_29 (i + 1) (by omega) (by omega) (by unfold fitL; rw [hk, decide_eq_true m48]; rfl) (fit_le hY1 m48)
        · skip
          have m48 : ¬ F 1 ^ i ≤ MAXL / F 1 := fun hq => c48 ((lg_cmp_le _ _).mpr ((pk_lLE (by unfold MAXL at hp; omega) (Nat.lt_of_le_of_lt (Nat.div_le_self _ _) (by decide))).mpr hq))
          refine j_ldc2 EE mw_X10_winningStacks_c162 dX10_winningStacks_51 ?_
          exact j_lret EE FF dX10_winningStacks_54 () trivial (by first | rfl | simp_all) rfl
  refine j_aload_n EE 0 dX10_winningStacks_0 rfl rfl ?_
  refine j_iload_n EE 1 dX10_winningStacks_1 rfl rfl ?_
  refine j_V2 (n9 := 14) EE (c_X10_isState h F Q ft B Bt a1 a2 a3 a4 a5 fr W M km le sp ro (nI j) hFb) gX10_winningStacks_X10_isState ⟨rfl, hd_X10_isState⟩ rfl ⟨rfl, rfl⟩ ⟨by decide, by decide⟩ rfl [0, 1, 2, 3, 4, 5, 6, 7, 8, 9, 10, 11, 12, 13] rfl [] [((h 0), .inr (6, [.ref ((h 1)), .ref ((h 2)), .ref ((h 3)), .int (nI km), .ref ((h 4)), .int (nI le), .int (nI sp), .ref ((h 5)), .ref ((h 6)), .int (nI ro), .ref ((h 7)), .ref ((h 8)), .ref ((h 9)), .ref ((h 10)), .ref ((h 11)), .ref ((h 12)), .ref ((h 13))])), ((h 1), .inl (cI, 99, .inl (sA F))), ((h 2), .inl (cI, 99, .inl fr)), ((h 3), .inl (cI, 594, .inl (kA Q))), ((h 4), .inl (cI, 200, .inl (fun zz => nI (ft zz)))), ((h 5), .inl (cI, 12, .inl (fun zz => nI (B zz)))), ((h 6), .inl (cI, 12, .inl (fun zz => nI (Bt zz)))), ((h 7), .inl (cJ, 16, .inr (.inl W))), ((h 8), .inl (cJ, 16, .inr (.inl M))), ((h 9), .inl (cI, 9, .inl (fun zz => nI (a1 zz)))), ((h 10), .inl (cI, 9, .inl (fun zz => nI (a2 zz)))), ((h 11), .inl (cI, 198, .inl (fun zz => nI (a3 zz)))), ((h 12), .inl (cI, 9, .inl (fun zz => nI (a4 zz)))), ((h 13), .inl (cI, 9, .inl (fA a5)))] (fun _ => rfl) [] [(h 0), (h 1), (h 2), (h 3), (h 4), (h 5), (h 6), (h 7), (h 8), (h 9), (h 10), (h 11), (h 12), (h 13)] rfl rfl rfl rfl rfl (by decide) (by decide) 0 rfl rfl rfl (Nat.le_of_ble_eq_true rfl) dX10_winningStacks_2 (fun u_2 h_2 => ?_) rfl
  show J l _ D ε _ _ _ (.int (nI (b2n (inR (nI j) (F 0)))) :: _)
  refine j_if_eq EE 20 dX10_winningStacks_5 (by decide) (fun c5 => absurd c5 (by rw [inR_nI hj (by omega)]; decide)) (fun c5 => ?_)
  have n5 : (b2n (inR (nI j) (F 0))) ≠ 0 := fun hq => c5 ((nI_eq (a := (b2n (inR (nI j) (F 0)))) (b := 0) (by have := b2n_lt (inR (nI j) (F 0)); omega) (by have := b2n_lt (inR (nI j) (F 0)); omega)).mpr hq)
  refine j_iload_n EE 2 dX10_winningStacks_8 rfl rfl ?_
  refine j_i2l EE dX10_winningStacks_9 ?_
  refine j_lconst (v := lN 0) EE dX10_winningStacks_10 (by decide) ?_
  refine j_ldc2 EE mw_X10_winningStacks_c156 dX10_winningStacks_11 ?_
  refine j_S2 (n9 := 14) EE (c_X10_in ((nI z).toInt64) (lN 0) (60)) gX10_winningStacks_X10_in hd_X10_in rfl ⟨rfl, rfl⟩ ⟨by decide, by decide⟩ rfl [] rfl [0, 1, 2, 3, 4, 5, 6, 7, 8, 9, 10, 11, 12, 13] [((h 0), .inr (6, [.ref ((h 1)), .ref ((h 2)), .ref ((h 3)), .int (nI km), .ref ((h 4)), .int (nI le), .int (nI sp), .ref ((h 5)), .ref ((h 6)), .int (nI ro), .ref ((h 7)), .ref ((h 8)), .ref ((h 9)), .ref ((h 10)), .ref ((h 11)), .ref ((h 12)), .ref ((h 13))])), ((h 1), .inl (cI, 99, .inl (sA F))), ((h 2), .inl (cI, 99, .inl fr)), ((h 3), .inl (cI, 594, .inl (kA Q))), ((h 4), .inl (cI, 200, .inl (fun zz => nI (ft zz)))), ((h 5), .inl (cI, 12, .inl (fun zz => nI (B zz)))), ((h 6), .inl (cI, 12, .inl (fun zz => nI (Bt zz)))), ((h 7), .inl (cJ, 16, .inr (.inl W))), ((h 8), .inl (cJ, 16, .inr (.inl M))), ((h 9), .inl (cI, 9, .inl (fun zz => nI (a1 zz)))), ((h 10), .inl (cI, 9, .inl (fun zz => nI (a2 zz)))), ((h 11), .inl (cI, 198, .inl (fun zz => nI (a3 zz)))), ((h 12), .inl (cI, 9, .inl (fun zz => nI (a4 zz)))), ((h 13), .inl (cI, 9, .inl (fA a5)))] (fun _ => rfl) [((h 0), .inr (6, [.ref ((h 1)), .ref ((h 2)), .ref ((h 3)), .int (nI km), .ref ((h 4)), .int (nI le), .int (nI sp), .ref ((h 5)), .ref ((h 6)), .int (nI ro), .ref ((h 7)), .ref ((h 8)), .ref ((h 9)), .ref ((h 10)), .ref ((h 11)), .ref ((h 12)), .ref ((h 13))])), ((h 1), .inl (cI, 99, .inl (sA F))), ((h 2), .inl (cI, 99, .inl fr)), ((h 3), .inl (cI, 594, .inl (kA Q))), ((h 4), .inl (cI, 200, .inl (fun zz => nI (ft zz)))), ((h 5), .inl (cI, 12, .inl (fun zz => nI (B zz)))), ((h 6), .inl (cI, 12, .inl (fun zz => nI (Bt zz)))), ((h 7), .inl (cJ, 16, .inr (.inl W))), ((h 8), .inl (cJ, 16, .inr (.inl M))), ((h 9), .inl (cI, 9, .inl (fun zz => nI (a1 zz)))), ((h 10), .inl (cI, 9, .inl (fun zz => nI (a2 zz)))), ((h 11), .inl (cI, 198, .inl (fun zz => nI (a3 zz)))), ((h 12), .inl (cI, 9, .inl (fun zz => nI (a4 zz)))), ((h 13), .inl (cI, 9, .inl (fA a5)))] [(h 0), (h 1), (h 2), (h 3), (h 4), (h 5), (h 6), (h 7), (h 8), (h 9), (h 10), (h 11), (h 12), (h 13)] rfl rfl rfl rfl rfl (by decide) (by decide) rfl (Nat.le_of_ble_eq_true rfl) dX10_winningStacks_14 (fun u_14 h_14 => ?_) rfl
  show J l _ D ε _ _ _ (.int (if lN 0 ≤ (nI z).toInt64 ∧ (nI z).toInt64 ≤ (60) then nI 1 else nI 0) :: _)
  refine j_topE (y := nI 1) (by rw [in_61, inR_nI (j := z) (by omega) (by decide)]; rfl) ?_
  show J l _ D ε _ _ _ (.int (nI 1) :: _)
  refine j_if_ne EE 24 dX10_winningStacks_17 (by decide) (fun c17 => ?_) (fun c17 => absurd c17 (by decide))
  have n17 : 1 ≠ 0 := fun hq => c17 ((nI_eq (a := 1) (b := 0) (by omega) (by omega)).mpr hq)
  refine j_lconst (v := lN 1) EE dX10_winningStacks_24 (by decide) ?_
  refine j_lstore_n EE [(3, _), (0, _), (1, _), (2, _)] dX10_winningStacks_25 rfl (Nat.lt_of_lt_of_eq (by decide) hL.symm) rfl ?_
  refine j_iconst (v := nI 0) EE dX10_winningStacks_26 (by decide) ?_
  refine j_istore EE [(5, _), (3, _), (0, _), (1, _), (2, _)] dX10_winningStacks_27 (Nat.lt_of_lt_of_eq (by decide) hL.symm) rfl ?_
  exact Lp_29 _ 0 (Nat.lt_succ_self _) (by omega) rfl (by rw [Nat.pow_zero]; decide)

theorem lk_X10_winningStacks_28 : Cond.fieldLink RX10 28 (TX10 10).1 (TX10 10).2.1 (TX10 10).2.2.1 ∈ wsX10_winningStacks := List.mem_of_getElem? (i := 6) rfl
theorem lk_X10_winningStacks_32 : Cond.fieldLink RX10 32 (TX10 11).1 (TX10 11).2.1 (TX10 11).2.2.1 ∈ wsX10_winningStacks := List.mem_of_getElem? (i := 7) rfl
set_option maxHeartbeats 4000000 in
set_option maxRecDepth 100000 in
theorem c_X10_winningStacks (h F Q ft B Bt a1 a2 a3 a4 a5 : Nat → Nat) (fr : Nat → Int32) (W M : Nat → Int64) (km le sp ro : Nat) (hFb : ∀ i, F i < 65536) (hP : F 0 ≤ 4) (hY : F 1 ≤ 3) (hn : F 4 ≤ 16) (hru : mRu F) (ht : F 3 < 16) (ho : F 2 < 16) (hB : ∀ i, B i < 65536) (N : Nat) (hN9 : N < 1000) (hN : endsAt F (bgM F B 12) N) (j z : Nat) (hj : j < F 0) (hz : z ≤ 60) (hY1 : 1 ≤ F 1) (hf : fitL (F 1) z = true) : Ct l yX10_winningStacks wsX10_winningStacks (rmD (6)) D [(cI, .int), (cC, .char), (cJ, .long), (cG, .object "PushdownGameSolver$Game")] [.ref ((h 0)), .int (nI j), .int (nI z)] [((h 0), .inr (6, [.ref ((h 1)), .ref ((h 2)), .ref ((h 3)), .int (nI km), .ref ((h 4)), .int (nI le), .int (nI sp), .ref ((h 5)), .ref ((h 6)), .int (nI ro), .ref ((h 7)), .ref ((h 8)), .ref ((h 9)), .ref ((h 10)), .ref ((h 11)), .ref ((h 12)), .ref ((h 13))])), ((h 1), .inl (cI, 99, .inl (sA F))), ((h 2), .inl (cI, 99, .inl fr)), ((h 3), .inl (cI, 594, .inl (kA Q))), ((h 4), .inl (cI, 200, .inl (fun zz => nI (ft zz)))), ((h 5), .inl (cI, 12, .inl (fun zz => nI (B zz)))), ((h 6), .inl (cI, 12, .inl (fun zz => nI (Bt zz)))), ((h 7), .inl (cJ, 16, .inr (.inl W))), ((h 8), .inl (cJ, 16, .inr (.inl M))), ((h 9), .inl (cI, 9, .inl (fun zz => nI (a1 zz)))), ((h 10), .inl (cI, 9, .inl (fun zz => nI (a2 zz)))), ((h 11), .inl (cI, 198, .inl (fun zz => nI (a3 zz)))), ((h 12), .inl (cI, 9, .inl (fun zz => nI (a4 zz)))), ((h 13), .inl (cI, 9, .inl (fA a5)))] (S := Unit) (fun _ => True) (fun _ => some (.long (smL j (ctM F (gB F (bgM F B 12) N) z (inL (F 3) W 16) M).1 16))) (fun _ => [((h 0), .inr (6, [.ref ((h 1)), .ref ((h 2)), .ref ((h 3)), .int (nI km), .ref ((h 4)), .int (nI le), .int (nI sp), .ref ((h 5)), .ref ((h 6)), .int (nI N), .ref ((h 7)), .ref ((h 8)), .ref ((h 9)), .ref ((h 10)), .ref ((h 11)), .ref ((h 12)), .ref ((h 13))])), ((h 1), .inl (cI, 99, .inl (sA F))), ((h 2), .inl (cI, 99, .inl fr)), ((h 3), .inl (cI, 594, .inl (kA Q))), ((h 4), .inl (cI, 200, .inl (fun zz => nI (ft zz)))), ((h 5), .inl (cI, 12, .inl (fun zz => nI ((gB F (bgM F B 12) N) zz)))), ((h 6), .inl (cI, 12, .inl (fun zz => nI ((gT F (bgM F B 12) Bt (N + 1)) zz)))), ((h 7), .inl (cJ, 16, .inr (.inl ((ctM F (gB F (bgM F B 12) N) z (inL (F 3) W 16) M).1)))), ((h 8), .inl (cJ, 16, .inr (.inl ((ctM F (gB F (bgM F B 12) N) z (inL (F 3) W 16) M).2)))), ((h 9), .inl (cI, 9, .inl (fun zz => nI (a1 zz)))), ((h 10), .inl (cI, 9, .inl (fun zz => nI (a2 zz)))), ((h 11), .inl (cI, 198, .inl (fun zz => nI (a3 zz)))), ((h 12), .inl (cI, 9, .inl (fun zz => nI (a4 zz)))), ((h 13), .inl (cI, 9, .inl (fA a5)))]) := by
  refine Ct.of (lv := [(0, .ref ((h 0))), (1, .int (nI j)), (2, .int (nI z))]) (by decide) rfl (Nat.le_of_ble_eq_true rfl) rfl ?_
  intro ε hL EE FF
  have hgb := gB_lt (B0 := bgM F B 12) hru (bgM_lt hB) N
  have Lp_260 : ∀ (nf : Nat), ∀ (s : Nat), 16 - s < nf → (s ≤ 16) → J l (rmD (6)) D ε [((h 0), .inr (6, [.ref ((h 1)), .ref ((h 2)), .ref ((h 3)), .int (nI km), .ref ((h 4)), .int (nI le), .int (nI sp), .ref ((h 5)), .ref ((h 6)), .int (nI N), .ref ((h 7)), .ref ((h 8)), .ref ((h 9)), .ref ((h 10)), .ref ((h 11)), .ref ((h 12)), .ref ((h 13))])), ((h 1), .inl (cI, 99, .inl (sA F))), ((h 2), .inl (cI, 99, .inl fr)), ((h 3), .inl (cI, 594, .inl (kA Q))), ((h 4), .inl (cI, 200, .inl (fun zz => nI (ft zz)))), ((h 5), .inl (cI, 12, .inl (fun zz => nI ((gB F (bgM F B 12) N) zz)))), ((h 6), .inl (cI, 12, .inl (fun zz => nI ((gT F (bgM F B 12) Bt (N + 1)) zz)))), ((h 7), .inl (cJ, 16, .inr (.inl ((ctM F (gB F (bgM F B 12) N) z (inL (F 3) W 16) M).1)))), ((h 8), .inl (cJ, 16, .inr (.inl ((ctM F (gB F (bgM F B 12) N) z (inL (F 3) W 16) M).2)))), ((h 9), .inl (cI, 9, .inl (fun zz => nI (a1 zz)))), ((h 10), .inl (cI, 9, .inl (fun zz => nI (a2 zz)))), ((h 11), .inl (cI, 198, .inl (fun zz => nI (a3 zz)))), ((h 12), .inl (cI, 9, .inl (fun zz => nI (a4 zz)))), ((h 13), .inl (cI, 9, .inl (fA a5)))] 260 [(7, .int (nI s)), (5, .long (smL j (ctM F (gB F (bgM F B 12) N) z (inL (F 3) W 16) M).1 s)), (0, .ref ((h 0))), (1, .int (nI j)), (2, .int (nI z)), (3, .long (lN (F 1 ^ z)))] [] := by
    intro nf
    induction nf with
    | zero => intro s hm; exact absurd hm (Nat.not_lt_zero _)
    | succ nf ihp_260 =>
      intro s hm260 hs
      refine j_iload EE 0 dX10_winningStacks_260 rfl ?_
      refine j_bipush (v := nI 16) EE dX10_winningStacks_262 (by decide) ?_
      refine j_icmp_ge EE 298 dX10_winningStacks_264 (by decide) (fun c264 => ?_) (fun c264 => ?_)
      · skip
        have n264 : 16 ≤ s := (nI_leI (a := 16) (b := s) (by omega) (by omega)).mp c264
        refine j_lload EE 1 dX10_winningStacks_298 rfl ?_
        exact j_lret EE FF dX10_winningStacks_300 () trivial (by rw [show 16 = s by omega]) rfl
      · skip
        have n264 : ¬ 16 ≤ s := fun hq => c264 ((nI_leI (a := 16) (b := s) (by omega) (by omega)).mpr hq)
        refine j_lload EE 1 dX10_winningStacks_267 rfl ?_
        refine j_iload EE 0 dX10_winningStacks_269 rfl ?_
        refine j_iload_n EE 3 dX10_winningStacks_271 rfl rfl ?_
        refine j_S2 (n9 := 14) EE (c_X10_has s j (by omega) (by omega)) gX10_winningStacks_X10_has hd_X10_has rfl ⟨rfl, rfl⟩ ⟨by decide, by decide⟩ rfl [] rfl [0, 1, 2, 3, 4, 5, 6, 7, 8, 9, 10, 11, 12, 13] [((h 0), .inr (6, [.ref ((h 1)), .ref ((h 2)), .ref ((h 3)), .int (nI km), .ref ((h 4)), .int (nI le), .int (nI sp), .ref ((h 5)), .ref ((h 6)), .int (nI N), .ref ((h 7)), .ref ((h 8)), .ref ((h 9)), .ref ((h 10)), .ref ((h 11)), .ref ((h 12)), .ref ((h 13))])), ((h 1), .inl (cI, 99, .inl (sA F))), ((h 2), .inl (cI, 99, .inl fr)), ((h 3), .inl (cI, 594, .inl (kA Q))), ((h 4), .inl (cI, 200, .inl (fun zz => nI (ft zz)))), ((h 5), .inl (cI, 12, .inl (fun zz => nI ((gB F (bgM F B 12) N) zz)))), ((h 6), .inl (cI, 12, .inl (fun zz => nI ((gT F (bgM F B 12) Bt (N + 1)) zz)))), ((h 7), .inl (cJ, 16, .inr (.inl ((ctM F (gB F (bgM F B 12) N) z (inL (F 3) W 16) M).1)))), ((h 8), .inl (cJ, 16, .inr (.inl ((ctM F (gB F (bgM F B 12) N) z (inL (F 3) W 16) M).2)))), ((h 9), .inl (cI, 9, .inl (fun zz => nI (a1 zz)))), ((h 10), .inl (cI, 9, .inl (fun zz => nI (a2 zz)))), ((h 11), .inl (cI, 198, .inl (fun zz => nI (a3 zz)))), ((h 12), .inl (cI, 9, .inl (fun zz => nI (a4 zz)))), ((h 13), .inl (cI, 9, .inl (fA a5)))] (fun _ => rfl) [((h 0), .inr (6, [.ref ((h 1)), .ref ((h 2)), .ref ((h 3)), .int (nI km), .ref ((h 4)), .int (nI le), .int (nI sp), .ref ((h 5)), .ref ((h 6)), .int (nI N), .ref ((h 7)), .ref ((h 8)), .ref ((h 9)), .ref ((h 10)), .ref ((h 11)), .ref ((h 12)), .ref ((h 13))])), ((h 1), .inl (cI, 99, .inl (sA F))), ((h 2), .inl (cI, 99, .inl fr)), ((h 3), .inl (cI, 594, .inl (kA Q))), ((h 4), .inl (cI, 200, .inl (fun zz => nI (ft zz)))), ((h 5), .inl (cI, 12, .inl (fun zz => nI ((gB F (bgM F B 12) N) zz)))), ((h 6), .inl (cI, 12, .inl (fun zz => nI ((gT F (bgM F B 12) Bt (N + 1)) zz)))), ((h 7), .inl (cJ, 16, .inr (.inl ((ctM F (gB F (bgM F B 12) N) z (inL (F 3) W 16) M).1)))), ((h 8), .inl (cJ, 16, .inr (.inl ((ctM F (gB F (bgM F B 12) N) z (inL (F 3) W 16) M).2)))), ((h 9), .inl (cI, 9, .inl (fun zz => nI (a1 zz)))), ((h 10), .inl (cI, 9, .inl (fun zz => nI (a2 zz)))), ((h 11), .inl (cI, 198, .inl (fun zz => nI (a3 zz)))), ((h 12), .inl (cI, 9, .inl (fun zz => nI (a4 zz)))), ((h 13), .inl (cI, 9, .inl (fA a5)))] [(h 0), (h 1), (h 2), (h 3), (h 4), (h 5), (h 6), (h 7), (h 8), (h 9), (h 10), (h 11), (h 12), (h 13)] rfl rfl rfl rfl rfl (by decide) (by decide) rfl (Nat.le_of_ble_eq_true rfl) dX10_winningStacks_272 (fun u_272 h_272 => ?_) rfl
        show J l _ D ε _ _ _ (.int (nI (bt s j)) :: _)
        refine j_if_eq EE 288 dX10_winningStacks_275 (by decide) (fun c275 => ?_) (fun c275 => ?_)
        · skip
          have n275 : (bt s j) = 0 := (nI_eq (a := (bt s j)) (b := 0) (by have := bt_lt s j; omega) (by have := bt_lt s j; omega)).mp c275
          refine j_lconst (v := lN 0) EE dX10_winningStacks_288 (by decide) ?_
          refine j_ladd EE dX10_winningStacks_289 ?_
          refine j_lstore EE [(5, _), (7, _), (0, _), (1, _), (2, _), (3, _)] dX10_winningStacks_290 (Nat.lt_of_lt_of_eq (by decide) hL.symm) rfl ?_
          refine j_iinc (v := nI (s + 1)) EE 1 [(7, .int (nI (s + 1))), (5, _), (0, _), (1, _), (2, _), (3, _)] dX10_winningStacks_292 rfl (nI_1 s) (Nat.lt_of_lt_of_eq (by decide) hL.symm) rfl ?_
          refine j_goto EE 260 dX10_winningStacks_295 (by decide) ?_
          first | rw [show smL j (ctM F (gB F (bgM F B 12) N) z (inL (F 3) W 16) M).1 s + (ctM F (gB F (bgM F B 12) N) z (inL (F 3) W 16) M).1 s = smL j (ctM F (gB F (bgM F B 12) N) z (inL (F 3) W 16) M).1 (s + 1) by conv => rhs; unfold smL; rw [if_pos (bz_1 n275)]] | rw [show smL j (ctM F (gB F (bgM F B 12) N) z (inL (F 3) W 16) M).1 s + lN 0 = smL j (ctM F (gB F (bgM F B 12) N) z (inL (F 3) W 16) M).1 (s + 1) by conv => rhs; unfold smL; rw [if_neg (by omega)]]
          exact ihp_260 (s + 1) (by omega) (by omega)
        · skip
          have n275 : (bt s j) ≠ 0 := fun hq => c275 ((nI_eq (a := (bt s j)) (b := 0) (by have := bt_lt s j; omega) (by have := bt_lt s j; omega)).mpr hq)
          refine j_aload_n EE 2 dX10_winningStacks_278 rfl rfl ?_
          refine j_get (T := TX10) EE iw_X10_winningStacks_X10 0 rfl rfl 10 (by decide) lk_X10_winningStacks_28 rfl dX10_winningStacks_279 ?_
          refine j_iload EE 0 dX10_winningStacks_282 rfl ?_
          refine j_lald EE 7 2 rfl rfl (vp_in_nI (n := s) (by omega) (by decide)) dX10_winningStacks_284 ?_
          refine j_topEl (congrArg ((ctM F (gB F (bgM F B 12) N) z (inL (F 3) W 16) M).1) (nI_clamp (n := s) (by omega))) ?_
          refine j_goto EE 289 dX10_winningStacks_285 (by decide) ?_
          refine j_ladd EE dX10_winningStacks_289 ?_
          refine j_lstore EE [(5, _), (7, _), (0, _), (1, _), (2, _), (3, _)] dX10_winningStacks_290 (Nat.lt_of_lt_of_eq (by decide) hL.symm) rfl ?_
          refine j_iinc (v := nI (s + 1)) EE 1 [(7, .int (nI (s + 1))), (5, _), (0, _), (1, _), (2, _), (3, _)] dX10_winningStacks_292 rfl (nI_1 s) (Nat.lt_of_lt_of_eq (by decide) hL.symm) rfl ?_
          refine j_goto EE 260 dX10_winningStacks_295 (by decide) ?_
          first | rw [show smL j (ctM F (gB F (bgM F B 12) N) z (inL (F 3) W 16) M).1 s + (ctM F (gB F (bgM F B 12) N) z (inL (F 3) W 16) M).1 s = smL j (ctM F (gB F (bgM F B 12) N) z (inL (F 3) W 16) M).1 (s + 1) by conv => rhs; unfold smL; rw [if_pos (bz_1 n275)]] | rw [show smL j (ctM F (gB F (bgM F B 12) N) z (inL (F 3) W 16) M).1 s + lN 0 = smL j (ctM F (gB F (bgM F B 12) N) z (inL (F 3) W 16) M).1 (s + 1) by conv => rhs; unfold smL; rw [if_neg (by omega)]]
          exact ihp_260 (s + 1) (by omega) (by omega)
  have Lp_117 : ∀ (nf : Nat), ∀ (i : Nat) (Wx Mx : Nat → Int64), 60 - i < nf → (i ≤ z) → (ctM F (gB F (bgM F B 12) N) i (inL (F 3) W 16) M = (Wx, Mx)) → J l (rmD (6)) D ε [((h 0), .inr (6, [.ref ((h 1)), .ref ((h 2)), .ref ((h 3)), .int (nI km), .ref ((h 4)), .int (nI le), .int (nI sp), .ref ((h 5)), .ref ((h 6)), .int (nI N), .ref ((h 7)), .ref ((h 8)), .ref ((h 9)), .ref ((h 10)), .ref ((h 11)), .ref ((h 12)), .ref ((h 13))])), ((h 1), .inl (cI, 99, .inl (sA F))), ((h 2), .inl (cI, 99, .inl fr)), ((h 3), .inl (cI, 594, .inl (kA Q))), ((h 4), .inl (cI, 200, .inl (fun zz => nI (ft zz)))), ((h 5), .inl (cI, 12, .inl (fun zz => nI ((gB F (bgM F B 12) N) zz)))), ((h 6), .inl (cI, 12, .inl (fun zz => nI ((gT F (bgM F B 12) Bt (N + 1)) zz)))), ((h 7), .inl (cJ, 16, .inr (.inl Wx))), ((h 8), .inl (cJ, 16, .inr (.inl Mx))), ((h 9), .inl (cI, 9, .inl (fun zz => nI (a1 zz)))), ((h 10), .inl (cI, 9, .inl (fun zz => nI (a2 zz)))), ((h 11), .inl (cI, 198, .inl (fun zz => nI (a3 zz)))), ((h 12), .inl (cI, 9, .inl (fun zz => nI (a4 zz)))), ((h 13), .inl (cI, 9, .inl (fA a5)))] 117 [(5, .int (nI i)), (0, .ref ((h 0))), (1, .int (nI j)), (2, .int (nI z)), (3, .long (lN (F 1 ^ z)))] [] := by
    intro nf
    induction nf with
    | zero => intro i Wx Mx hm; exact absurd hm (Nat.not_lt_zero _)
    | succ nf ihp_117 =>
      intro i Wx Mx hm117 hi hq9
      have Lp_221 : ∀ (nf : Nat), ∀ (k : Nat), 16 - k < nf → (k ≤ 16) → (i < z) → J l (rmD (6)) D ε [((h 0), .inr (6, [.ref ((h 1)), .ref ((h 2)), .ref ((h 3)), .int (nI km), .ref ((h 4)), .int (nI le), .int (nI sp), .ref ((h 5)), .ref ((h 6)), .int (nI N), .ref ((h 7)), .ref ((h 8)), .ref ((h 9)), .ref ((h 10)), .ref ((h 11)), .ref ((h 12)), .ref ((h 13))])), ((h 1), .inl (cI, 99, .inl (sA F))), ((h 2), .inl (cI, 99, .inl fr)), ((h 3), .inl (cI, 594, .inl (kA Q))), ((h 4), .inl (cI, 200, .inl (fun zz => nI (ft zz)))), ((h 5), .inl (cI, 12, .inl (fun zz => nI ((gB F (bgM F B 12) N) zz)))), ((h 6), .inl (cI, 12, .inl (fun zz => nI ((gT F (bgM F B 12) Bt (N + 1)) zz)))), ((h 7), .inl (cJ, 16, .inr (.inl (cpyL (mW1 F (gB F (bgM F B 12) N) Wx Mx) Wx k)))), ((h 8), .inl (cJ, 16, .inr (.inl (mW1 F (gB F (bgM F B 12) N) Wx Mx)))), ((h 9), .inl (cI, 9, .inl (fun zz => nI (a1 zz)))), ((h 10), .inl (cI, 9, .inl (fun zz => nI (a2 zz)))), ((h 11), .inl (cI, 198, .inl (fun zz => nI (a3 zz)))), ((h 12), .inl (cI, 9, .inl (fun zz => nI (a4 zz)))), ((h 13), .inl (cI, 9, .inl (fA a5)))] 221 [(6, .int (nI k)), (5, .int (nI i)), (0, .ref ((h 0))), (1, .int (nI j)), (2, .int (nI z)), (3, .long (lN (F 1 ^ z)))] [] := by
        intro nf
        induction nf with
        | zero => intro k hm; exact absurd hm (Nat.not_lt_zero _)
        | succ nf ihp_221 =>
          intro k hm221 hk hil
          refine j_iload EE 0 dX10_winningStacks_221 rfl ?_
          refine j_bipush (v := nI 16) EE dX10_winningStacks_223 (by decide) ?_
          refine j_icmp_ge EE 248 dX10_winningStacks_225 (by decide) (fun c225 => ?_) (fun c225 => ?_)
          · skip
            have n225 : 16 ≤ k := (nI_leI (a := 16) (b := k) (by omega) (by omega)).mp c225
            refine j_iinc (v := nI (i + 1)) EE 1 [(5, .int (nI (i + 1))), (6, _), (0, _), (1, _), (2, _), (3, _)] dX10_winningStacks_248 rfl (nI_1 i) (Nat.lt_of_lt_of_eq (by decide) hL.symm) rfl ?_
            refine j_goto EE 117 dX10_winningStacks_251 (by decide) ?_
            refine j_lv [0, 2, 3, 4, 5] rfl ?_
            rw [show k = 16 by omega]
            exact ihp_117 (i + 1) (cpyL (mW1 F (gB F (bgM F B 12) N) Wx Mx) Wx 16) (mW1 F (gB F (bgM F B 12) N) Wx Mx) (by omega) (by omega) (by show (cpyL (mW1 F (gB F (bgM F B 12) N) (ctM F (gB F (bgM F B 12) N) i (inL (F 3) W 16) M).1 (ctM F (gB F (bgM F B 12) N) i (inL (F 3) W 16) M).2) (ctM F (gB F (bgM F B 12) N) i (inL (F 3) W 16) M).1 16, mW1 F (gB F (bgM F B 12) N) (ctM F (gB F (bgM F B 12) N) i (inL (F 3) W 16) M).1 (ctM F (gB F (bgM F B 12) N) i (inL (F 3) W 16) M).2) = _; rw [hq9])
          · skip
            have n225 : ¬ 16 ≤ k := fun hq => c225 ((nI_leI (a := 16) (b := k) (by omega) (by omega)).mpr hq)
            refine j_aload_n EE 2 dX10_winningStacks_228 rfl rfl ?_
            refine j_get (T := TX10) EE iw_X10_winningStacks_X10 0 rfl rfl 10 (by decide) lk_X10_winningStacks_28 rfl dX10_winningStacks_229 ?_
            refine j_iload EE 0 dX10_winningStacks_232 rfl ?_
            refine j_aload_n EE 2 dX10_winningStacks_234 rfl rfl ?_
            refine j_get (T := TX10) EE iw_X10_winningStacks_X10 0 rfl rfl 11 (by decide) lk_X10_winningStacks_32 rfl dX10_winningStacks_235 ?_
            refine j_iload EE 0 dX10_winningStacks_238 rfl ?_
            refine j_lald EE 8 2 rfl rfl (vp_in_nI (n := k) (by omega) (by decide)) dX10_winningStacks_240 ?_
            refine j_topEl (congrArg (mW1 F (gB F (bgM F B 12) N) Wx Mx) (nI_clamp (n := k) (by omega))) ?_
            refine j_last (ws' := [((h 0), .inr (6, [.ref ((h 1)), .ref ((h 2)), .ref ((h 3)), .int (nI km), .ref ((h 4)), .int (nI le), .int (nI sp), .ref ((h 5)), .ref ((h 6)), .int (nI N), .ref ((h 7)), .ref ((h 8)), .ref ((h 9)), .ref ((h 10)), .ref ((h 11)), .ref ((h 12)), .ref ((h 13))])), ((h 1), .inl (cI, 99, .inl (sA F))), ((h 2), .inl (cI, 99, .inl fr)), ((h 3), .inl (cI, 594, .inl (kA Q))), ((h 4), .inl (cI, 200, .inl (fun zz => nI (ft zz)))), ((h 5), .inl (cI, 12, .inl (fun zz => nI ((gB F (bgM F B 12) N) zz)))), ((h 6), .inl (cI, 12, .inl (fun zz => nI ((gT F (bgM F B 12) Bt (N + 1)) zz)))), ((h 7), .inl (cJ, 16, .inr (.inl (cpyL (mW1 F (gB F (bgM F B 12) N) Wx Mx) Wx (k + 1))))), ((h 8), .inl (cJ, 16, .inr (.inl (mW1 F (gB F (bgM F B 12) N) Wx Mx)))), ((h 9), .inl (cI, 9, .inl (fun zz => nI (a1 zz)))), ((h 10), .inl (cI, 9, .inl (fun zz => nI (a2 zz)))), ((h 11), .inl (cI, 198, .inl (fun zz => nI (a3 zz)))), ((h 12), .inl (cI, 9, .inl (fun zz => nI (a4 zz)))), ((h 13), .inl (cI, 9, .inl (fA a5)))]) EE 7 2 rfl rfl (vp_in_nI (n := k) (by omega) (by decide)) (by rw [nI_clamp (by omega), cpyL_s]; rfl) dX10_winningStacks_241 ?_
            refine j_iinc (v := nI (k + 1)) EE 0 [(6, .int (nI (k + 1))), (5, _), (0, _), (1, _), (2, _), (3, _)] dX10_winningStacks_242 rfl (nI_1 k) (Nat.lt_of_lt_of_eq (by decide) hL.symm) rfl ?_
            refine j_goto EE 221 dX10_winningStacks_245 (by decide) ?_
            exact ihp_221 (k + 1) (by omega) (by omega) hil
      have Lp_150 : ∀ (nf : Nat), ∀ (s : Nat), 16 - s < nf → (s ≤ 16) → (i < z) → J l (rmD (6)) D ε [((h 0), .inr (6, [.ref ((h 1)), .ref ((h 2)), .ref ((h 3)), .int (nI km), .ref ((h 4)), .int (nI le), .int (nI sp), .ref ((h 5)), .ref ((h 6)), .int (nI N), .ref ((h 7)), .ref ((h 8)), .ref ((h 9)), .ref ((h 10)), .ref ((h 11)), .ref ((h 12)), .ref ((h 13))])), ((h 1), .inl (cI, 99, .inl (sA F))), ((h 2), .inl (cI, 99, .inl fr)), ((h 3), .inl (cI, 594, .inl (kA Q))), ((h 4), .inl (cI, 200, .inl (fun zz => nI (ft zz)))), ((h 5), .inl (cI, 12, .inl (fun zz => nI ((gB F (bgM F B 12) N) zz)))), ((h 6), .inl (cI, 12, .inl (fun zz => nI ((gT F (bgM F B 12) Bt (N + 1)) zz)))), ((h 7), .inl (cJ, 16, .inr (.inl Wx))), ((h 8), .inl (cJ, 16, .inr (.inl (mS (aaM F (gB F (bgM F B 12) N)) Wx (F 1) (zrL Mx 16) s)))), ((h 9), .inl (cI, 9, .inl (fun zz => nI (a1 zz)))), ((h 10), .inl (cI, 9, .inl (fun zz => nI (a2 zz)))), ((h 11), .inl (cI, 198, .inl (fun zz => nI (a3 zz)))), ((h 12), .inl (cI, 9, .inl (fun zz => nI (a4 zz)))), ((h 13), .inl (cI, 9, .inl (fA a5)))] 150 [(6, .int (nI s)), (5, .int (nI i)), (0, .ref ((h 0))), (1, .int (nI j)), (2, .int (nI z)), (3, .long (lN (F 1 ^ z)))] [] := by
        intro nf
        induction nf with
        | zero => intro s hm; exact absurd hm (Nat.not_lt_zero _)
        | succ nf ihp_150 =>
          intro s hm150 hs hil
          have Lp_160 : ∀ (nf : Nat), ∀ (y : Nat), 4 - y < nf → (y ≤ F 1) → (s < 16) → J l (rmD (6)) D ε [((h 0), .inr (6, [.ref ((h 1)), .ref ((h 2)), .ref ((h 3)), .int (nI km), .ref ((h 4)), .int (nI le), .int (nI sp), .ref ((h 5)), .ref ((h 6)), .int (nI N), .ref ((h 7)), .ref ((h 8)), .ref ((h 9)), .ref ((h 10)), .ref ((h 11)), .ref ((h 12)), .ref ((h 13))])), ((h 1), .inl (cI, 99, .inl (sA F))), ((h 2), .inl (cI, 99, .inl fr)), ((h 3), .inl (cI, 594, .inl (kA Q))), ((h 4), .inl (cI, 200, .inl (fun zz => nI (ft zz)))), ((h 5), .inl (cI, 12, .inl (fun zz => nI ((gB F (bgM F B 12) N) zz)))), ((h 6), .inl (cI, 12, .inl (fun zz => nI ((gT F (bgM F B 12) Bt (N + 1)) zz)))), ((h 7), .inl (cJ, 16, .inr (.inl Wx))), ((h 8), .inl (cJ, 16, .inr (.inl (grZ (aaM F (gB F (bgM F B 12) N)) (Wx s) s (mS (aaM F (gB F (bgM F B 12) N)) Wx (F 1) (zrL Mx 16) s) y)))), ((h 9), .inl (cI, 9, .inl (fun zz => nI (a1 zz)))), ((h 10), .inl (cI, 9, .inl (fun zz => nI (a2 zz)))), ((h 11), .inl (cI, 198, .inl (fun zz => nI (a3 zz)))), ((h 12), .inl (cI, 9, .inl (fun zz => nI (a4 zz)))), ((h 13), .inl (cI, 9, .inl (fA a5)))] 160 [(7, .int (nI y)), (6, .int (nI s)), (5, .int (nI i)), (0, .ref ((h 0))), (1, .int (nI j)), (2, .int (nI z)), (3, .long (lN (F 1 ^ z)))] [] := by
            intro nf
            induction nf with
            | zero => intro y hm; exact absurd hm (Nat.not_lt_zero _)
            | succ nf ihp_160 =>
              intro y hm160 hy hsl
              refine j_iload EE 0 dX10_winningStacks_160 rfl ?_
              refine j_aload_n EE 3 dX10_winningStacks_162 rfl rfl ?_
              refine j_get (T := TX10) EE iw_X10_winningStacks_X10 0 rfl rfl 0 (by decide) lk_X10_winningStacks_7 rfl dX10_winningStacks_163 ?_
              refine j_iconst (v := nI 1) EE dX10_winningStacks_166 (by decide) ?_
              refine j_iald EE 1 0 rfl rfl (vp_in_nI (n := 1) (by omega) (by decide)) dX10_winningStacks_167 ?_
              refine j_topE (congrArg (sA F) (nI_clamp (n := 1) (by omega))) ?_
              refine j_topE (y := nI (F 1)) (sA_n (by omega)) ?_
              refine j_icmp_ge EE 212 dX10_winningStacks_168 (by decide) (fun c168 => ?_) (fun c168 => ?_)
              · skip
                have n168 : (F 1) ≤ y := (nI_leI (a := (F 1)) (b := y) (by have := hFb 1; omega) (by have := hFb 1; omega)).mp c168
                refine j_iinc (v := nI (s + 1)) EE 1 [(6, .int (nI (s + 1))), (7, _), (5, _), (0, _), (1, _), (2, _), (3, _)] dX10_winningStacks_212 rfl (nI_1 s) (Nat.lt_of_lt_of_eq (by decide) hL.symm) rfl ?_
                refine j_goto EE 150 dX10_winningStacks_215 (by decide) ?_
                refine j_lv [0, 2, 3, 4, 5, 6] rfl ?_
                first | rw [show y = F 1 by omega, show grZ (aaM F (gB F (bgM F B 12) N)) (Wx s) s (mS (aaM F (gB F (bgM F B 12) N)) Wx (F 1) (zrL Mx 16) s) (F 1) = (mS (aaM F (gB F (bgM F B 12) N)) Wx (F 1) (zrL Mx 16) (s + 1)) from rfl] | rw [show grZ (aaM F (gB F (bgM F B 12) N)) (Wx s) s (mS (aaM F (gB F (bgM F B 12) N)) Wx (F 1) (zrL Mx 16) s) y = (mS (aaM F (gB F (bgM F B 12) N)) Wx (F 1) (zrL Mx 16) (s + 1)) from grZ_z m180]
                exact ihp_150 (s + 1) (by omega) (by omega) hil
              · skip
                have n168 : ¬ (F 1) ≤ y := fun hq => c168 ((nI_leI (a := (F 1)) (b := y) (by have := hFb 1; omega) (by have := hFb 1; omega)).mpr hq)
                refine j_aload_n EE 3 dX10_winningStacks_171 rfl rfl ?_
                refine j_get (T := TX10) EE iw_X10_winningStacks_X10 0 rfl rfl 10 (by decide) lk_X10_winningStacks_28 rfl dX10_winningStacks_172 ?_
                refine j_iload EE 1 dX10_winningStacks_175 rfl ?_
                refine j_lald EE 7 2 rfl rfl (vp_in_nI (n := s) (by omega) (by decide)) dX10_winningStacks_177 ?_
                refine j_topEl (congrArg Wx (nI_clamp (n := s) (by omega))) ?_
                refine j_lconst (v := lN 0) EE dX10_winningStacks_178 (by decide) ?_
                refine j_lcmp EE dX10_winningStacks_179 ?_
                refine j_if_le EE 212 dX10_winningStacks_180 (by decide) (fun c180 => ?_) (fun c180 => ?_)
                · skip
                  have m180 : Wx s ≤ lN 0 := (lg_cmp_le _ _).mp c180
                  refine j_iinc (v := nI (s + 1)) EE 1 [(6, .int (nI (s + 1))), (7, _), (5, _), (0, _), (1, _), (2, _), (3, _)] dX10_winningStacks_212 rfl (nI_1 s) (Nat.lt_of_lt_of_eq (by decide) hL.symm) rfl ?_
                  refine j_goto EE 150 dX10_winningStacks_215 (by decide) ?_
                  refine j_lv [0, 2, 3, 4, 5, 6] rfl ?_
                  first | rw [show y = F 1 by omega, show grZ (aaM F (gB F (bgM F B 12) N)) (Wx s) s (mS (aaM F (gB F (bgM F B 12) N)) Wx (F 1) (zrL Mx 16) s) (F 1) = (mS (aaM F (gB F (bgM F B 12) N)) Wx (F 1) (zrL Mx 16) (s + 1)) from rfl] | rw [show grZ (aaM F (gB F (bgM F B 12) N)) (Wx s) s (mS (aaM F (gB F (bgM F B 12) N)) Wx (F 1) (zrL Mx 16) s) y = (mS (aaM F (gB F (bgM F B 12) N)) Wx (F 1) (zrL Mx 16) (s + 1)) from grZ_z m180]
                  exact ihp_150 (s + 1) (by omega) (by omega) hil
                · skip
                  have m180 : ¬ Wx s ≤ lN 0 := fun hq => c180 ((lg_cmp_le _ _).mpr hq)
                  refine j_aload_n EE 3 dX10_winningStacks_183 rfl rfl ?_
                  refine j_get (T := TX10) EE iw_X10_winningStacks_X10 0 rfl rfl 11 (by decide) lk_X10_winningStacks_32 rfl dX10_winningStacks_184 ?_
                  refine j_aload_n EE 3 dX10_winningStacks_187 rfl rfl ?_
                  refine j_iload EE 1 dX10_winningStacks_188 rfl ?_
                  refine j_iload EE 0 dX10_winningStacks_190 rfl ?_
                  refine j_V2 (n9 := 14) EE (c_X10_accepted h F Q ft (gB F (bgM F B 12) N) (gT F (bgM F B 12) Bt (N + 1)) a1 a2 a3 a4 a5 fr Wx (grZ (aaM F (gB F (bgM F B 12) N)) (Wx s) s (mS (aaM F (gB F (bgM F B 12) N)) Wx (F 1) (zrL Mx 16) s) y) km le sp N s y hFb (by omega) (by omega) (by omega) (by omega) hgb) gX10_winningStacks_X10_accepted ⟨rfl, hd_X10_accepted⟩ rfl ⟨rfl, rfl⟩ ⟨by decide, by decide⟩ rfl [0, 1, 2, 3, 4, 5, 6, 7, 8, 9, 10, 11, 12, 13] rfl [] [((h 0), .inr (6, [.ref ((h 1)), .ref ((h 2)), .ref ((h 3)), .int (nI km), .ref ((h 4)), .int (nI le), .int (nI sp), .ref ((h 5)), .ref ((h 6)), .int (nI N), .ref ((h 7)), .ref ((h 8)), .ref ((h 9)), .ref ((h 10)), .ref ((h 11)), .ref ((h 12)), .ref ((h 13))])), ((h 1), .inl (cI, 99, .inl (sA F))), ((h 2), .inl (cI, 99, .inl fr)), ((h 3), .inl (cI, 594, .inl (kA Q))), ((h 4), .inl (cI, 200, .inl (fun zz => nI (ft zz)))), ((h 5), .inl (cI, 12, .inl (fun zz => nI ((gB F (bgM F B 12) N) zz)))), ((h 6), .inl (cI, 12, .inl (fun zz => nI ((gT F (bgM F B 12) Bt (N + 1)) zz)))), ((h 7), .inl (cJ, 16, .inr (.inl Wx))), ((h 8), .inl (cJ, 16, .inr (.inl (grZ (aaM F (gB F (bgM F B 12) N)) (Wx s) s (mS (aaM F (gB F (bgM F B 12) N)) Wx (F 1) (zrL Mx 16) s) y)))), ((h 9), .inl (cI, 9, .inl (fun zz => nI (a1 zz)))), ((h 10), .inl (cI, 9, .inl (fun zz => nI (a2 zz)))), ((h 11), .inl (cI, 198, .inl (fun zz => nI (a3 zz)))), ((h 12), .inl (cI, 9, .inl (fun zz => nI (a4 zz)))), ((h 13), .inl (cI, 9, .inl (fA a5)))] (fun _ => rfl) [] [(h 0), (h 1), (h 2), (h 3), (h 4), (h 5), (h 6), (h 7), (h 8), (h 9), (h 10), (h 11), (h 12), (h 13)] rfl rfl rfl rfl rfl (by decide) (by decide) 0 rfl rfl rfl (Nat.le_of_ble_eq_true rfl) dX10_winningStacks_192 (fun u_192 h_192 => ?_) rfl
                  show J l _ D ε _ _ _ (.int (nI (acO (F 3) (gB F (bgM F B 12) N) y s (F 0))) :: _)
                  have hal9 := acO_lt (B := (gB F (bgM F B 12) N)) (y := y) (b := s) ht (F 0) hP
                  refine j_dup2 EE rfl rfl dX10_winningStacks_195 ?_
                  refine j_lald EE 8 2 rfl rfl (vp_in_nI (n := acO (F 3) (gB F (bgM F B 12) N) y s (F 0)) (by omega) (by decide)) dX10_winningStacks_196 ?_
                  refine j_topEl (congrArg (grZ (aaM F (gB F (bgM F B 12) N)) (Wx s) s (mS (aaM F (gB F (bgM F B 12) N)) Wx (F 1) (zrL Mx 16) s) y) (nI_clamp (n := acO (F 3) (gB F (bgM F B 12) N) y s (F 0)) (by omega))) ?_
                  refine j_aload_n EE 3 dX10_winningStacks_197 rfl rfl ?_
                  refine j_get (T := TX10) EE iw_X10_winningStacks_X10 0 rfl rfl 10 (by decide) lk_X10_winningStacks_28 rfl dX10_winningStacks_198 ?_
                  refine j_iload EE 1 dX10_winningStacks_201 rfl ?_
                  refine j_lald EE 7 2 rfl rfl (vp_in_nI (n := s) (by omega) (by decide)) dX10_winningStacks_203 ?_
                  refine j_topEl (congrArg Wx (nI_clamp (n := s) (by omega))) ?_
                  refine j_ladd EE dX10_winningStacks_204 ?_
                  refine j_last (ws' := [((h 0), .inr (6, [.ref ((h 1)), .ref ((h 2)), .ref ((h 3)), .int (nI km), .ref ((h 4)), .int (nI le), .int (nI sp), .ref ((h 5)), .ref ((h 6)), .int (nI N), .ref ((h 7)), .ref ((h 8)), .ref ((h 9)), .ref ((h 10)), .ref ((h 11)), .ref ((h 12)), .ref ((h 13))])), ((h 1), .inl (cI, 99, .inl (sA F))), ((h 2), .inl (cI, 99, .inl fr)), ((h 3), .inl (cI, 594, .inl (kA Q))), ((h 4), .inl (cI, 200, .inl (fun zz => nI (ft zz)))), ((h 5), .inl (cI, 12, .inl (fun zz => nI ((gB F (bgM F B 12) N) zz)))), ((h 6), .inl (cI, 12, .inl (fun zz => nI ((gT F (bgM F B 12) Bt (N + 1)) zz)))), ((h 7), .inl (cJ, 16, .inr (.inl Wx))), ((h 8), .inl (cJ, 16, .inr (.inl (grZ (aaM F (gB F (bgM F B 12) N)) (Wx s) s (mS (aaM F (gB F (bgM F B 12) N)) Wx (F 1) (zrL Mx 16) s) (y + 1))))), ((h 9), .inl (cI, 9, .inl (fun zz => nI (a1 zz)))), ((h 10), .inl (cI, 9, .inl (fun zz => nI (a2 zz)))), ((h 11), .inl (cI, 198, .inl (fun zz => nI (a3 zz)))), ((h 12), .inl (cI, 9, .inl (fun zz => nI (a4 zz)))), ((h 13), .inl (cI, 9, .inl (fA a5)))]) EE 8 2 rfl rfl (vp_in_nI (n := acO (F 3) (gB F (bgM F B 12) N) y s (F 0)) (by omega) (by decide)) (by rw [nI_clamp (by omega), ← grZ_s m180]; rfl) dX10_winningStacks_205 ?_
                  refine j_iinc (v := nI (y + 1)) EE 0 [(7, .int (nI (y + 1))), (6, _), (5, _), (0, _), (1, _), (2, _), (3, _)] dX10_winningStacks_206 rfl (nI_1 y) (Nat.lt_of_lt_of_eq (by decide) hL.symm) rfl ?_
                  refine j_goto EE 160 dX10_winningStacks_209 (by decide) ?_
                  exact ihp_160 (y + 1) (by omega) (by omega) hsl
          refine j_iload EE 0 dX10_winningStacks_150 rfl ?_
          refine j_bipush (v := nI 16) EE dX10_winningStacks_152 (by decide) ?_
          refine j_icmp_ge EE 218 dX10_winningStacks_154 (by decide) (fun c154 => ?_) (fun c154 => ?_)
          · skip
            have n154 : 16 ≤ s := (nI_leI (a := 16) (b := s) (by omega) (by omega)).mp c154
            refine j_iconst (v := nI 0) EE dX10_winningStacks_218 (by decide) ?_
            refine j_istore EE [(6, _), (5, _), (0, _), (1, _), (2, _), (3, _)] dX10_winningStacks_219 (Nat.lt_of_lt_of_eq (by decide) hL.symm) rfl ?_
            rw [show s = 16 by omega]
            have hx9 := Lp_221 _ 0 (Nat.lt_succ_self _) (by omega) hil
            rw [cpyL_0] at hx9
            exact hx9
          · skip
            have n154 : ¬ 16 ≤ s := fun hq => c154 ((nI_leI (a := 16) (b := s) (by omega) (by omega)).mpr hq)
            refine j_iconst (v := nI 0) EE dX10_winningStacks_157 (by decide) ?_
            refine j_istore EE [(7, _), (6, _), (5, _), (0, _), (1, _), (2, _), (3, _)] dX10_winningStacks_158 (Nat.lt_of_lt_of_eq (by decide) hL.symm) rfl ?_
            have hx9 := Lp_160 _ 0 (Nat.lt_succ_self _) (by omega) (by omega)
            rw [grZ_0] at hx9
            exact hx9
      have Lp_126 : ∀ (nf : Nat), ∀ (k : Nat), 16 - k < nf → (k ≤ 16) → (i < z) → J l (rmD (6)) D ε [((h 0), .inr (6, [.ref ((h 1)), .ref ((h 2)), .ref ((h 3)), .int (nI km), .ref ((h 4)), .int (nI le), .int (nI sp), .ref ((h 5)), .ref ((h 6)), .int (nI N), .ref ((h 7)), .ref ((h 8)), .ref ((h 9)), .ref ((h 10)), .ref ((h 11)), .ref ((h 12)), .ref ((h 13))])), ((h 1), .inl (cI, 99, .inl (sA F))), ((h 2), .inl (cI, 99, .inl fr)), ((h 3), .inl (cI, 594, .inl (kA Q))), ((h 4), .inl (cI, 200, .inl (fun zz => nI (ft zz)))), ((h 5), .inl (cI, 12, .inl (fun zz => nI ((gB F (bgM F B 12) N) zz)))), ((h 6), .inl (cI, 12, .inl (fun zz => nI ((gT F (bgM F B 12) Bt (N + 1)) zz)))), ((h 7), .inl (cJ, 16, .inr (.inl Wx))), ((h 8), .inl (cJ, 16, .inr (.inl (zrL Mx k)))), ((h 9), .inl (cI, 9, .inl (fun zz => nI (a1 zz)))), ((h 10), .inl (cI, 9, .inl (fun zz => nI (a2 zz)))), ((h 11), .inl (cI, 198, .inl (fun zz => nI (a3 zz)))), ((h 12), .inl (cI, 9, .inl (fun zz => nI (a4 zz)))), ((h 13), .inl (cI, 9, .inl (fA a5)))] 126 [(6, .int (nI k)), (5, .int (nI i)), (0, .ref ((h 0))), (1, .int (nI j)), (2, .int (nI z)), (3, .long (lN (F 1 ^ z)))] [] := by
        intro nf
        induction nf with
        | zero => intro k hm; exact absurd hm (Nat.not_lt_zero _)
        | succ nf ihp_126 =>
          intro k hm126 hk hil
          refine j_iload EE 0 dX10_winningStacks_126 rfl ?_
          refine j_bipush (v := nI 16) EE dX10_winningStacks_128 (by decide) ?_
          refine j_icmp_ge EE 147 dX10_winningStacks_130 (by decide) (fun c130 => ?_) (fun c130 => ?_)
          · skip
            have n130 : 16 ≤ k := (nI_leI (a := 16) (b := k) (by omega) (by omega)).mp c130
            refine j_iconst (v := nI 0) EE dX10_winningStacks_147 (by decide) ?_
            refine j_istore EE [(6, _), (5, _), (0, _), (1, _), (2, _), (3, _)] dX10_winningStacks_148 (Nat.lt_of_lt_of_eq (by decide) hL.symm) rfl ?_
            rw [show k = 16 by omega]
            exact Lp_150 _ 0 (Nat.lt_succ_self _) (by omega) hil
          · skip
            have n130 : ¬ 16 ≤ k := fun hq => c130 ((nI_leI (a := 16) (b := k) (by omega) (by omega)).mpr hq)
            refine j_aload_n EE 2 dX10_winningStacks_133 rfl rfl ?_
            refine j_get (T := TX10) EE iw_X10_winningStacks_X10 0 rfl rfl 11 (by decide) lk_X10_winningStacks_32 rfl dX10_winningStacks_134 ?_
            refine j_iload EE 0 dX10_winningStacks_137 rfl ?_
            refine j_lconst (v := lN 0) EE dX10_winningStacks_139 (by decide) ?_
            refine j_last (ws' := [((h 0), .inr (6, [.ref ((h 1)), .ref ((h 2)), .ref ((h 3)), .int (nI km), .ref ((h 4)), .int (nI le), .int (nI sp), .ref ((h 5)), .ref ((h 6)), .int (nI N), .ref ((h 7)), .ref ((h 8)), .ref ((h 9)), .ref ((h 10)), .ref ((h 11)), .ref ((h 12)), .ref ((h 13))])), ((h 1), .inl (cI, 99, .inl (sA F))), ((h 2), .inl (cI, 99, .inl fr)), ((h 3), .inl (cI, 594, .inl (kA Q))), ((h 4), .inl (cI, 200, .inl (fun zz => nI (ft zz)))), ((h 5), .inl (cI, 12, .inl (fun zz => nI ((gB F (bgM F B 12) N) zz)))), ((h 6), .inl (cI, 12, .inl (fun zz => nI ((gT F (bgM F B 12) Bt (N + 1)) zz)))), ((h 7), .inl (cJ, 16, .inr (.inl Wx))), ((h 8), .inl (cJ, 16, .inr (.inl (zrL Mx (k + 1))))), ((h 9), .inl (cI, 9, .inl (fun zz => nI (a1 zz)))), ((h 10), .inl (cI, 9, .inl (fun zz => nI (a2 zz)))), ((h 11), .inl (cI, 198, .inl (fun zz => nI (a3 zz)))), ((h 12), .inl (cI, 9, .inl (fun zz => nI (a4 zz)))), ((h 13), .inl (cI, 9, .inl (fA a5)))]) EE 8 2 rfl rfl (vp_in_nI (n := k) (by omega) (by decide)) (by rw [nI_clamp (by omega), zrL_s]; rfl) dX10_winningStacks_140 ?_
            refine j_iinc (v := nI (k + 1)) EE 0 [(6, .int (nI (k + 1))), (5, _), (0, _), (1, _), (2, _), (3, _)] dX10_winningStacks_141 rfl (nI_1 k) (Nat.lt_of_lt_of_eq (by decide) hL.symm) rfl ?_
            refine j_goto EE 126 dX10_winningStacks_144 (by decide) ?_
            exact ihp_126 (k + 1) (by omega) (by omega) hil
      refine j_iload EE 0 dX10_winningStacks_117 rfl ?_
      refine j_iload_n EE 3 dX10_winningStacks_119 rfl rfl ?_
      refine j_icmp_ge EE 254 dX10_winningStacks_120 (by decide) (fun c120 => ?_) (fun c120 => ?_)
      · skip
        have n120 : z ≤ i := (nI_leI (a := z) (b := i) (by omega) (by omega)).mp c120
        refine j_lconst (v := lN 0) EE dX10_winningStacks_254 (by decide) ?_
        refine j_lstore EE [(5, _), (0, _), (1, _), (2, _), (3, _)] dX10_winningStacks_255 (Nat.lt_of_lt_of_eq (by decide) hL.symm) rfl ?_
        refine j_iconst (v := nI 0) EE dX10_winningStacks_257 (by decide) ?_
        refine j_istore EE [(7, _), (5, _), (0, _), (1, _), (2, _), (3, _)] dX10_winningStacks_258 (Nat.lt_of_lt_of_eq (by decide) hL.symm) rfl ?_
        have hx9 := Lp_260 _ 0 (Nat.lt_succ_self _) (by omega)
        rw [show z = i by omega, hq9] at hx9
        rw [show z = i by omega]
        exact hx9
      · skip
        have n120 : ¬ z ≤ i := fun hq => c120 ((nI_leI (a := z) (b := i) (by omega) (by omega)).mpr hq)
        refine j_iconst (v := nI 0) EE dX10_winningStacks_123 (by decide) ?_
        refine j_istore EE [(6, _), (5, _), (0, _), (1, _), (2, _), (3, _)] dX10_winningStacks_124 (Nat.lt_of_lt_of_eq (by decide) hL.symm) rfl ?_
        rw [← zrL_0 Mx]
        exact Lp_126 _ 0 (Nat.lt_succ_self _) (by omega) (by omega)
  have Lp_78 : ∀ (nf : Nat), ∀ (i : Nat), 16 - i < nf → (i ≤ 16) → J l (rmD (6)) D ε [((h 0), .inr (6, [.ref ((h 1)), .ref ((h 2)), .ref ((h 3)), .int (nI km), .ref ((h 4)), .int (nI le), .int (nI sp), .ref ((h 5)), .ref ((h 6)), .int (nI N), .ref ((h 7)), .ref ((h 8)), .ref ((h 9)), .ref ((h 10)), .ref ((h 11)), .ref ((h 12)), .ref ((h 13))])), ((h 1), .inl (cI, 99, .inl (sA F))), ((h 2), .inl (cI, 99, .inl fr)), ((h 3), .inl (cI, 594, .inl (kA Q))), ((h 4), .inl (cI, 200, .inl (fun zz => nI (ft zz)))), ((h 5), .inl (cI, 12, .inl (fun zz => nI ((gB F (bgM F B 12) N) zz)))), ((h 6), .inl (cI, 12, .inl (fun zz => nI ((gT F (bgM F B 12) Bt (N + 1)) zz)))), ((h 7), .inl (cJ, 16, .inr (.inl (inL (F 3) W i)))), ((h 8), .inl (cJ, 16, .inr (.inl M))), ((h 9), .inl (cI, 9, .inl (fun zz => nI (a1 zz)))), ((h 10), .inl (cI, 9, .inl (fun zz => nI (a2 zz)))), ((h 11), .inl (cI, 198, .inl (fun zz => nI (a3 zz)))), ((h 12), .inl (cI, 9, .inl (fun zz => nI (a4 zz)))), ((h 13), .inl (cI, 9, .inl (fA a5)))] 78 [(5, .int (nI i)), (0, .ref ((h 0))), (1, .int (nI j)), (2, .int (nI z)), (3, .long (lN (F 1 ^ z)))] [] := by
    intro nf
    induction nf with
    | zero => intro i hm; exact absurd hm (Nat.not_lt_zero _)
    | succ nf ihp_78 =>
      intro i hm78 hi
      refine j_iload EE 0 dX10_winningStacks_78 rfl ?_
      refine j_bipush (v := nI 16) EE dX10_winningStacks_80 (by decide) ?_
      refine j_icmp_ge EE 114 dX10_winningStacks_82 (by decide) (fun c82 => ?_) (fun c82 => ?_)
      · skip
        have n82 : 16 ≤ i := (nI_leI (a := 16) (b := i) (by omega) (by omega)).mp c82
        refine j_iconst (v := nI 0) EE dX10_winningStacks_114 (by decide) ?_
        refine j_istore EE [(5, _), (0, _), (1, _), (2, _), (3, _)] dX10_winningStacks_115 (Nat.lt_of_lt_of_eq (by decide) hL.symm) rfl ?_
        rw [show i = 16 by omega]
        exact Lp_117 _ 0 (inL (F 3) W 16) M (Nat.lt_succ_self _) (by omega) rfl
      · skip
        have n82 : ¬ 16 ≤ i := fun hq => c82 ((nI_leI (a := 16) (b := i) (by omega) (by omega)).mpr hq)
        refine j_aload_n EE 1 dX10_winningStacks_85 rfl rfl ?_
        refine j_get (T := TX10) EE iw_X10_winningStacks_X10 0 rfl rfl 10 (by decide) lk_X10_winningStacks_28 rfl dX10_winningStacks_86 ?_
        refine j_iload EE 0 dX10_winningStacks_89 rfl ?_
        refine j_iload EE 0 dX10_winningStacks_91 rfl ?_
        refine j_aload_n EE 1 dX10_winningStacks_93 rfl rfl ?_
        refine j_get (T := TX10) EE iw_X10_winningStacks_X10 0 rfl rfl 0 (by decide) lk_X10_winningStacks_7 rfl dX10_winningStacks_94 ?_
        refine j_iconst (v := nI 3) EE dX10_winningStacks_97 (by decide) ?_
        refine j_iald EE 1 0 rfl rfl (vp_in_nI (n := 3) (by omega) (by decide)) dX10_winningStacks_98 ?_
        refine j_topE (congrArg (sA F) (nI_clamp (n := 3) (by omega))) ?_
        refine j_topE (y := nI (F 3)) (sA_n (by omega)) ?_
        refine j_icmp_ne EE 106 dX10_winningStacks_99 (by decide) (fun c99 => ?_) (fun c99 => ?_)
        · skip
          have n99 : i ≠ (F 3) := fun hq => c99 ((nI_eq (a := i) (b := (F 3)) (by have := hFb 3; omega) (by have := hFb 3; omega)).mpr hq)
          refine j_lconst (v := lN 0) EE dX10_winningStacks_106 (by decide) ?_
          refine j_last (ws' := [((h 0), .inr (6, [.ref ((h 1)), .ref ((h 2)), .ref ((h 3)), .int (nI km), .ref ((h 4)), .int (nI le), .int (nI sp), .ref ((h 5)), .ref ((h 6)), .int (nI N), .ref ((h 7)), .ref ((h 8)), .ref ((h 9)), .ref ((h 10)), .ref ((h 11)), .ref ((h 12)), .ref ((h 13))])), ((h 1), .inl (cI, 99, .inl (sA F))), ((h 2), .inl (cI, 99, .inl fr)), ((h 3), .inl (cI, 594, .inl (kA Q))), ((h 4), .inl (cI, 200, .inl (fun zz => nI (ft zz)))), ((h 5), .inl (cI, 12, .inl (fun zz => nI ((gB F (bgM F B 12) N) zz)))), ((h 6), .inl (cI, 12, .inl (fun zz => nI ((gT F (bgM F B 12) Bt (N + 1)) zz)))), ((h 7), .inl (cJ, 16, .inr (.inl (inL (F 3) W (i + 1))))), ((h 8), .inl (cJ, 16, .inr (.inl M))), ((h 9), .inl (cI, 9, .inl (fun zz => nI (a1 zz)))), ((h 10), .inl (cI, 9, .inl (fun zz => nI (a2 zz)))), ((h 11), .inl (cI, 198, .inl (fun zz => nI (a3 zz)))), ((h 12), .inl (cI, 9, .inl (fun zz => nI (a4 zz)))), ((h 13), .inl (cI, 9, .inl (fA a5)))]) EE 7 2 rfl rfl (vp_in_nI (n := i) (by omega) (by decide)) (by rw [nI_clamp (by omega), inL_s (F 3) W i _ (by first | rw [if_pos n99] | rw [if_neg n99])]; rfl) dX10_winningStacks_107 ?_
          refine j_iinc (v := nI (i + 1)) EE 0 [(5, .int (nI (i + 1))), (0, _), (1, _), (2, _), (3, _)] dX10_winningStacks_108 rfl (nI_1 i) (Nat.lt_of_lt_of_eq (by decide) hL.symm) rfl ?_
          refine j_goto EE 78 dX10_winningStacks_111 (by decide) ?_
          exact ihp_78 (i + 1) (by omega) (by omega)
        · skip
          have n99 : i = (F 3) := (nI_eq (a := i) (b := (F 3)) (by have := hFb 3; omega) (by have := hFb 3; omega)).mp c99
          refine j_lconst (v := lN 1) EE dX10_winningStacks_102 (by decide) ?_
          refine j_goto EE 107 dX10_winningStacks_103 (by decide) ?_
          refine j_last (ws' := [((h 0), .inr (6, [.ref ((h 1)), .ref ((h 2)), .ref ((h 3)), .int (nI km), .ref ((h 4)), .int (nI le), .int (nI sp), .ref ((h 5)), .ref ((h 6)), .int (nI N), .ref ((h 7)), .ref ((h 8)), .ref ((h 9)), .ref ((h 10)), .ref ((h 11)), .ref ((h 12)), .ref ((h 13))])), ((h 1), .inl (cI, 99, .inl (sA F))), ((h 2), .inl (cI, 99, .inl fr)), ((h 3), .inl (cI, 594, .inl (kA Q))), ((h 4), .inl (cI, 200, .inl (fun zz => nI (ft zz)))), ((h 5), .inl (cI, 12, .inl (fun zz => nI ((gB F (bgM F B 12) N) zz)))), ((h 6), .inl (cI, 12, .inl (fun zz => nI ((gT F (bgM F B 12) Bt (N + 1)) zz)))), ((h 7), .inl (cJ, 16, .inr (.inl (inL (F 3) W (i + 1))))), ((h 8), .inl (cJ, 16, .inr (.inl M))), ((h 9), .inl (cI, 9, .inl (fun zz => nI (a1 zz)))), ((h 10), .inl (cI, 9, .inl (fun zz => nI (a2 zz)))), ((h 11), .inl (cI, 198, .inl (fun zz => nI (a3 zz)))), ((h 12), .inl (cI, 9, .inl (fun zz => nI (a4 zz)))), ((h 13), .inl (cI, 9, .inl (fA a5)))]) EE 7 2 rfl rfl (vp_in_nI (n := i) (by omega) (by decide)) (by rw [nI_clamp (by omega), inL_s (F 3) W i _ (by first | rw [if_pos n99] | rw [if_neg n99])]; rfl) dX10_winningStacks_107 ?_
          refine j_iinc (v := nI (i + 1)) EE 0 [(5, .int (nI (i + 1))), (0, _), (1, _), (2, _), (3, _)] dX10_winningStacks_108 rfl (nI_1 i) (Nat.lt_of_lt_of_eq (by decide) hL.symm) rfl ?_
          refine j_goto EE 78 dX10_winningStacks_111 (by decide) ?_
          exact ihp_78 (i + 1) (by omega) (by omega)
  have Lp_29 : ∀ (nf : Nat), ∀ (i : Nat), 60 - i < nf → (i ≤ z) → (fitL (F 1) i = true) → (F 1 ^ i ≤ MAXL) → J l (rmD (6)) D ε [((h 0), .inr (6, [.ref ((h 1)), .ref ((h 2)), .ref ((h 3)), .int (nI km), .ref ((h 4)), .int (nI le), .int (nI sp), .ref ((h 5)), .ref ((h 6)), .int (nI ro), .ref ((h 7)), .ref ((h 8)), .ref ((h 9)), .ref ((h 10)), .ref ((h 11)), .ref ((h 12)), .ref ((h 13))])), ((h 1), .inl (cI, 99, .inl (sA F))), ((h 2), .inl (cI, 99, .inl fr)), ((h 3), .inl (cI, 594, .inl (kA Q))), ((h 4), .inl (cI, 200, .inl (fun zz => nI (ft zz)))), ((h 5), .inl (cI, 12, .inl (fun zz => nI (B zz)))), ((h 6), .inl (cI, 12, .inl (fun zz => nI (Bt zz)))), ((h 7), .inl (cJ, 16, .inr (.inl W))), ((h 8), .inl (cJ, 16, .inr (.inl M))), ((h 9), .inl (cI, 9, .inl (fun zz => nI (a1 zz)))), ((h 10), .inl (cI, 9, .inl (fun zz => nI (a2 zz)))), ((h 11), .inl (cI, 198, .inl (fun zz => nI (a3 zz)))), ((h 12), .inl (cI, 9, .inl (fun zz => nI (a4 zz)))), ((h 13), .inl (cI, 9, .inl (fA a5)))] 29 [(5, .int (nI i)), (3, .long (lN (F 1 ^ i))), (0, .ref ((h 0))), (1, .int (nI j)), (2, .int (nI z))] [] := by
    intro nf
    induction nf with
    | zero => intro i hm; exact absurd hm (Nat.not_lt_zero _)
    | succ nf ihp_29 =>
      intro i hm29 hi hk hp
      refine j_iload EE 0 dX10_winningStacks_29 rfl ?_
      refine j_iload_n EE 4 dX10_winningStacks_31 rfl rfl ?_
      refine j_icmp_ge EE 71 dX10_winningStacks_32 (by decide) (fun c32 => ?_) (fun c32 => ?_)
      · skip
        have n32 : z ≤ i := (nI_leI (a := z) (b := i) (by omega) (by omega)).mp c32
        refine j_aload_n EE 2 dX10_winningStacks_71 rfl rfl ?_
        refine j_V2 (n9 := 14) EE (c_X10_allRounds h F Q ft B Bt a1 a2 a3 a4 a5 fr W M km le sp ro hFb hP hY hn hru ht ho hB N hN9 hN) gX10_winningStacks_X10_allRounds ⟨rfl, hd_X10_allRounds⟩ rfl ⟨rfl, rfl⟩ ⟨by decide, by decide⟩ rfl [0, 1, 2, 3, 4, 5, 6, 7, 8, 9, 10, 11, 12, 13] rfl [] [((h 0), .inr (6, [.ref ((h 1)), .ref ((h 2)), .ref ((h 3)), .int (nI km), .ref ((h 4)), .int (nI le), .int (nI sp), .ref ((h 5)), .ref ((h 6)), .int (nI N), .ref ((h 7)), .ref ((h 8)), .ref ((h 9)), .ref ((h 10)), .ref ((h 11)), .ref ((h 12)), .ref ((h 13))])), ((h 1), .inl (cI, 99, .inl (sA F))), ((h 2), .inl (cI, 99, .inl fr)), ((h 3), .inl (cI, 594, .inl (kA Q))), ((h 4), .inl (cI, 200, .inl (fun zz => nI (ft zz)))), ((h 5), .inl (cI, 12, .inl (fun zz => nI ((gB F (bgM F B 12) N) zz)))), ((h 6), .inl (cI, 12, .inl (fun zz => nI ((gT F (bgM F B 12) Bt (N + 1)) zz)))), ((h 7), .inl (cJ, 16, .inr (.inl W))), ((h 8), .inl (cJ, 16, .inr (.inl M))), ((h 9), .inl (cI, 9, .inl (fun zz => nI (a1 zz)))), ((h 10), .inl (cI, 9, .inl (fun zz => nI (a2 zz)))), ((h 11), .inl (cI, 198, .inl (fun zz => nI (a3 zz)))), ((h 12), .inl (cI, 9, .inl (fun zz => nI (a4 zz)))), ((h 13), .inl (cI, 9, .inl (fA a5)))] (fun _ => rfl) [] [(h 0), (h 1), (h 2), (h 3), (h 4), (h 5), (h 6), (h 7), (h 8), (h 9), (h 10), (h 11), (h 12), (h 13)] rfl rfl rfl rfl rfl (by decide) (by decide) 0 rfl rfl rfl (Nat.le_of_ble_eq_true rfl) dX10_winningStacks_72 (fun u_72 h_72 => ?_) rfl
        refine j_iconst (v := nI 0) EE dX10_winningStacks_75 (by decide) ?_
        refine j_istore EE [(5, _), (3, _), (0, _), (1, _), (2, _)] dX10_winningStacks_76 (Nat.lt_of_lt_of_eq (by decide) hL.symm) rfl ?_
        refine j_lv [0, 2, 3, 4, 1] rfl ?_
        rw [show i = z by omega, ← inL_0 (F 3) W]
        exact Lp_78 _ 0 (Nat.lt_succ_self _) (by omega)
      · skip
        have n32 : ¬ z ≤ i := fun hq => c32 ((nI_leI (a := z) (b := i) (by omega) (by omega)).mpr hq)
        refine j_lload_n EE 1 dX10_winningStacks_35 rfl rfl ?_
        refine j_ldc2 EE mw_X10_winningStacks_c160 dX10_winningStacks_36 ?_
        refine j_aload_n EE 2 dX10_winningStacks_39 rfl rfl ?_
        refine j_get (T := TX10) EE iw_X10_winningStacks_X10 0 rfl rfl 0 (by decide) lk_X10_winningStacks_7 rfl dX10_winningStacks_40 ?_
        refine j_iconst (v := nI 1) EE dX10_winningStacks_43 (by decide) ?_
        refine j_iald EE 1 0 rfl rfl (vp_in_nI (n := 1) (by omega) (by decide)) dX10_winningStacks_44 ?_
        refine j_topE (congrArg (sA F) (nI_clamp (n := 1) (by omega))) ?_
        refine j_topE (y := nI (F 1)) (sA_n (by omega)) ?_
        refine j_i2l EE dX10_winningStacks_45 ?_
        refine j_topEl (y := lN (F 1)) (i2l_n (by omega)) ?_
        refine j_ldiv EE (fun hz9 => absurd ((pk_lEQ (b := 0) (by omega) (by decide)).mp hz9) (by omega)) dX10_winningStacks_46 ?_
        refine j_topEl (y := lN (MAXL / F 1)) (by rw [maxl_e]; exact pk_lDiv (by decide) (by omega) (by omega)) ?_
        refine j_lcmp EE dX10_winningStacks_47 ?_
        refine j_if_le EE 55 dX10_winningStacks_48 (by decide) (fun c48 => ?_) (fun c48 => ?_)
        · skip
          have m48 : F 1 ^ i ≤ MAXL / F 1 := (pk_lLE (by unfold MAXL at hp; omega) (Nat.lt_of_le_of_lt (Nat.div_le_self _ _) (by decide))).mp ((lg_cmp_le _ _).mp c48)
          refine j_lload_n EE 1 dX10_winningStacks_55 rfl rfl ?_
          refine j_aload_n EE 2 dX10_winningStacks_56 rfl rfl ?_
          refine j_get (T := TX10) EE iw_X10_winningStacks_X10 0 rfl rfl 0 (by decide) lk_X10_winningStacks_7 rfl dX10_winningStacks_57 ?_
          refine j_iconst (v := nI 1) EE dX10_winningStacks_60 (by decide) ?_
          refine j_iald EE 1 0 rfl rfl (vp_in_nI (n := 1) (by omega) (by decide)) dX10_winningStacks_61 ?_
          refine j_topE (congrArg (sA F) (nI_clamp (n := 1) (by omega))) ?_
          refine j_topE (y := nI (F 1)) (sA_n (by omega)) ?_
          refine j_i2l EE dX10_winningStacks_62 ?_
          refine j_topEl (y := lN (F 1)) (i2l_n (by omega)) ?_
          refine j_lmul EE dX10_winningStacks_63 ?_
          refine j_topEl (y := lN (F 1 ^ (i + 1))) (by rw [lN_mul, Nat.pow_succ]) ?_
          refine j_lstore_n EE [(3, _), (5, _), (0, _), (1, _), (2, _)] dX10_winningStacks_64 rfl (Nat.lt_of_lt_of_eq (by decide) hL.symm) rfl ?_
          refine j_iinc (v := nI (i + 1)) EE 1 [(5, .int (nI (i + 1))), (3, _), (0, _), (1, _), (2, _)] dX10_winningStacks_65 rfl (nI_1 i) (Nat.lt_of_lt_of_eq (by decide) hL.symm) rfl ?_
          refine j_goto EE 29 dX10_winningStacks_68 (by decide) ?_
          exact ihp_29 (i + 1) (by omega) (by omega) (by unfold fitL; rw [hk, decide_eq_true m48]; rfl) (fit_le hY1 m48)
        · skip
          have m48 : ¬ F 1 ^ i ≤ MAXL / F 1 := fun hq => c48 ((lg_cmp_le _ _).mpr ((pk_lLE (by unfold MAXL at hp; omega) (Nat.lt_of_le_of_lt (Nat.div_le_self _ _) (by decide))).mpr hq))
          exfalso
          rw [fitL_f m48 z (by omega)] at hf
          cases hf
  refine j_aload_n EE 0 dX10_winningStacks_0 rfl rfl ?_
  refine j_iload_n EE 1 dX10_winningStacks_1 rfl rfl ?_
  refine j_V2 (n9 := 14) EE (c_X10_isState h F Q ft B Bt a1 a2 a3 a4 a5 fr W M km le sp ro (nI j) hFb) gX10_winningStacks_X10_isState ⟨rfl, hd_X10_isState⟩ rfl ⟨rfl, rfl⟩ ⟨by decide, by decide⟩ rfl [0, 1, 2, 3, 4, 5, 6, 7, 8, 9, 10, 11, 12, 13] rfl [] [((h 0), .inr (6, [.ref ((h 1)), .ref ((h 2)), .ref ((h 3)), .int (nI km), .ref ((h 4)), .int (nI le), .int (nI sp), .ref ((h 5)), .ref ((h 6)), .int (nI ro), .ref ((h 7)), .ref ((h 8)), .ref ((h 9)), .ref ((h 10)), .ref ((h 11)), .ref ((h 12)), .ref ((h 13))])), ((h 1), .inl (cI, 99, .inl (sA F))), ((h 2), .inl (cI, 99, .inl fr)), ((h 3), .inl (cI, 594, .inl (kA Q))), ((h 4), .inl (cI, 200, .inl (fun zz => nI (ft zz)))), ((h 5), .inl (cI, 12, .inl (fun zz => nI (B zz)))), ((h 6), .inl (cI, 12, .inl (fun zz => nI (Bt zz)))), ((h 7), .inl (cJ, 16, .inr (.inl W))), ((h 8), .inl (cJ, 16, .inr (.inl M))), ((h 9), .inl (cI, 9, .inl (fun zz => nI (a1 zz)))), ((h 10), .inl (cI, 9, .inl (fun zz => nI (a2 zz)))), ((h 11), .inl (cI, 198, .inl (fun zz => nI (a3 zz)))), ((h 12), .inl (cI, 9, .inl (fun zz => nI (a4 zz)))), ((h 13), .inl (cI, 9, .inl (fA a5)))] (fun _ => rfl) [] [(h 0), (h 1), (h 2), (h 3), (h 4), (h 5), (h 6), (h 7), (h 8), (h 9), (h 10), (h 11), (h 12), (h 13)] rfl rfl rfl rfl rfl (by decide) (by decide) 0 rfl rfl rfl (Nat.le_of_ble_eq_true rfl) dX10_winningStacks_2 (fun u_2 h_2 => ?_) rfl
  show J l _ D ε _ _ _ (.int (nI (b2n (inR (nI j) (F 0)))) :: _)
  refine j_if_eq EE 20 dX10_winningStacks_5 (by decide) (fun c5 => absurd c5 (by rw [inR_nI hj (by omega)]; decide)) (fun c5 => ?_)
  have n5 : (b2n (inR (nI j) (F 0))) ≠ 0 := fun hq => c5 ((nI_eq (a := (b2n (inR (nI j) (F 0)))) (b := 0) (by have := b2n_lt (inR (nI j) (F 0)); omega) (by have := b2n_lt (inR (nI j) (F 0)); omega)).mpr hq)
  refine j_iload_n EE 2 dX10_winningStacks_8 rfl rfl ?_
  refine j_i2l EE dX10_winningStacks_9 ?_
  refine j_lconst (v := lN 0) EE dX10_winningStacks_10 (by decide) ?_
  refine j_ldc2 EE mw_X10_winningStacks_c156 dX10_winningStacks_11 ?_
  refine j_S2 (n9 := 14) EE (c_X10_in ((nI z).toInt64) (lN 0) (60)) gX10_winningStacks_X10_in hd_X10_in rfl ⟨rfl, rfl⟩ ⟨by decide, by decide⟩ rfl [] rfl [0, 1, 2, 3, 4, 5, 6, 7, 8, 9, 10, 11, 12, 13] [((h 0), .inr (6, [.ref ((h 1)), .ref ((h 2)), .ref ((h 3)), .int (nI km), .ref ((h 4)), .int (nI le), .int (nI sp), .ref ((h 5)), .ref ((h 6)), .int (nI ro), .ref ((h 7)), .ref ((h 8)), .ref ((h 9)), .ref ((h 10)), .ref ((h 11)), .ref ((h 12)), .ref ((h 13))])), ((h 1), .inl (cI, 99, .inl (sA F))), ((h 2), .inl (cI, 99, .inl fr)), ((h 3), .inl (cI, 594, .inl (kA Q))), ((h 4), .inl (cI, 200, .inl (fun zz => nI (ft zz)))), ((h 5), .inl (cI, 12, .inl (fun zz => nI (B zz)))), ((h 6), .inl (cI, 12, .inl (fun zz => nI (Bt zz)))), ((h 7), .inl (cJ, 16, .inr (.inl W))), ((h 8), .inl (cJ, 16, .inr (.inl M))), ((h 9), .inl (cI, 9, .inl (fun zz => nI (a1 zz)))), ((h 10), .inl (cI, 9, .inl (fun zz => nI (a2 zz)))), ((h 11), .inl (cI, 198, .inl (fun zz => nI (a3 zz)))), ((h 12), .inl (cI, 9, .inl (fun zz => nI (a4 zz)))), ((h 13), .inl (cI, 9, .inl (fA a5)))] (fun _ => rfl) [((h 0), .inr (6, [.ref ((h 1)), .ref ((h 2)), .ref ((h 3)), .int (nI km), .ref ((h 4)), .int (nI le), .int (nI sp), .ref ((h 5)), .ref ((h 6)), .int (nI ro), .ref ((h 7)), .ref ((h 8)), .ref ((h 9)), .ref ((h 10)), .ref ((h 11)), .ref ((h 12)), .ref ((h 13))])), ((h 1), .inl (cI, 99, .inl (sA F))), ((h 2), .inl (cI, 99, .inl fr)), ((h 3), .inl (cI, 594, .inl (kA Q))), ((h 4), .inl (cI, 200, .inl (fun zz => nI (ft zz)))), ((h 5), .inl (cI, 12, .inl (fun zz => nI (B zz)))), ((h 6), .inl (cI, 12, .inl (fun zz => nI (Bt zz)))), ((h 7), .inl (cJ, 16, .inr (.inl W))), ((h 8), .inl (cJ, 16, .inr (.inl M))), ((h 9), .inl (cI, 9, .inl (fun zz => nI (a1 zz)))), ((h 10), .inl (cI, 9, .inl (fun zz => nI (a2 zz)))), ((h 11), .inl (cI, 198, .inl (fun zz => nI (a3 zz)))), ((h 12), .inl (cI, 9, .inl (fun zz => nI (a4 zz)))), ((h 13), .inl (cI, 9, .inl (fA a5)))] [(h 0), (h 1), (h 2), (h 3), (h 4), (h 5), (h 6), (h 7), (h 8), (h 9), (h 10), (h 11), (h 12), (h 13)] rfl rfl rfl rfl rfl (by decide) (by decide) rfl (Nat.le_of_ble_eq_true rfl) dX10_winningStacks_14 (fun u_14 h_14 => ?_) rfl
  show J l _ D ε _ _ _ (.int (if lN 0 ≤ (nI z).toInt64 ∧ (nI z).toInt64 ≤ (60) then nI 1 else nI 0) :: _)
  refine j_topE (y := nI 1) (by rw [in_61, inR_nI (j := z) (by omega) (by decide)]; rfl) ?_
  show J l _ D ε _ _ _ (.int (nI 1) :: _)
  refine j_if_ne EE 24 dX10_winningStacks_17 (by decide) (fun c17 => ?_) (fun c17 => absurd c17 (by decide))
  have n17 : 1 ≠ 0 := fun hq => c17 ((nI_eq (a := 1) (b := 0) (by omega) (by omega)).mpr hq)
  refine j_lconst (v := lN 1) EE dX10_winningStacks_24 (by decide) ?_
  refine j_lstore_n EE [(3, _), (0, _), (1, _), (2, _)] dX10_winningStacks_25 rfl (Nat.lt_of_lt_of_eq (by decide) hL.symm) rfl ?_
  refine j_iconst (v := nI 0) EE dX10_winningStacks_26 (by decide) ?_
  refine j_istore EE [(5, _), (3, _), (0, _), (1, _), (2, _)] dX10_winningStacks_27 (Nat.lt_of_lt_of_eq (by decide) hL.symm) rfl ?_
  exact Lp_29 _ 0 (Nat.lt_succ_self _) (by omega) rfl (by rw [Nat.pow_zero]; decide)

end G_46_mod7
