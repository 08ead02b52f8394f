section G_28_count
variable {l : Launch} {D : va_G} {cI cC cJ cG : ClassId}

def MAXL : Nat := 9223372036854775807
/-- symbols^size fits a long, as it is counted up -/
def fitL (Y : Nat) : Nat → Bool
  | 0 => true
  | i + 1 => fitL Y i && decide (Y ^ i ≤ MAXL / Y)
theorem fitL_f {Y i : Nat} (h : ¬ Y ^ i ≤ MAXL / Y) : ∀ n, i < n → fitL Y n = false
  | 0, hn => absurd hn (Nat.not_lt_zero _)
  | n + 1, hn => by
    unfold fitL
    by_cases hi : i = n
    · subst hi
      rw [decide_eq_false h, Bool.and_false]
    · rw [fitL_f h n (by omega)]
      rfl
theorem fit_le {Y i : Nat} (hY : 1 ≤ Y) (h : Y ^ i ≤ MAXL / Y) : Y ^ (i + 1) ≤ MAXL := by
  rw [Nat.pow_succ]
  exact (Nat.le_div_iff_mul_le (by omega)).mp h
theorem i2l_n {n : Nat} (h : n < 2 ^ 31) : (nI n).toInt64 = lN n := nI_l h
theorem maxl_e : (9223372036854775807 : Int64) = lN MAXL := by decide +kernel
theorem max_1 {Y : Nat} (hY : 1 ≤ Y) (hY2 : Y < 100) : (if nI 1 < nI Y then nI Y else nI 1) = nI Y := by
  by_cases h : 1 < Y
  · rw [if_pos ((nI_ltI (by omega) (by omega)).mpr h)]
  · rw [if_neg (fun z => h ((nI_ltI (by omega) (by omega)).mp z)), show Y = 1 by omega]
def cpyL (f g : Nat → Int64) (n : Nat) : Nat → Int64 := fun i => if i < n then f i else g i
theorem cpy_L (f g : Nat → Int64) (n : Nat) (z : Int32) (hz : z.toNatClampNeg = n) (z0 z1 : Int32) (h0 : z0.toNatClampNeg = 0) (h1 : z1.toNatClampNeg = 0) : va_cpy f g z0.toNatClampNeg z1.toNatClampNeg z.toNatClampNeg = cpyL f g n := by
  funext j
  rw [hz, h0, h1]
  unfold va_cpy cpyL
  by_cases h : j < n
  · simp [h]
  · simp [h]
def zrL (M : Nat → Int64) (k : Nat) : Nat → Int64 := fun i => if i < k then lN 0 else M i
theorem zrL_0 (M : Nat → Int64) : zrL M 0 = M := by funext i; unfold zrL; rw [if_neg (by omega)]
theorem zrL_s (M : Nat → Int64) (k : Nat) : vp_updL (zrL M k) k (lN 0) = zrL M (k + 1) := by
  funext i
  unfold vp_updL zrL
  by_cases h : i = k
  · rw [if_pos h, if_pos (by omega)]
  · rw [if_neg h]
    by_cases h2 : i < k
    · rw [if_pos h2, if_pos (by omega)]
    · rw [if_neg h2, if_neg (by omega)]
def inL (t : Nat) (W : Nat → Int64) (k : Nat) : Nat → Int64 := fun i => if i < k then (if i = t then lN 1 else lN 0) else W i
theorem inL_0 (t : Nat) (W : Nat → Int64) : inL t W 0 = W := by funext i; unfold inL; rw [if_neg (by omega)]
theorem inL_s (t : Nat) (W : Nat → Int64) (k : Nat) (x : Int64) (hx : x = if k = t then lN 1 else lN 0) : vp_updL (inL t W k) k x = inL t W (k + 1) := by
  subst hx
  funext i
  unfold vp_updL inL
  by_cases h : i = k
  · subst h
    by_cases h2 : i = t
    · simp [h2]
    · simp [h2]
  · rw [if_neg h]
    by_cases h2 : i < k
    · rw [if_pos h2, if_pos (by omega : i < k + 1)]
    · rw [if_neg h2, if_neg (by omega : ¬ i < k + 1)]
/-- one set's stacks with each symbol above them -/
def grY (aa : Nat → Nat → Nat) (w : Int64) (s : Nat) (M : Nat → Int64) : Nat → (Nat → Int64)
  | 0 => M
  | y + 1 => vp_updL (grY aa w s M y) (aa s y) (grY aa w s M y (aa s y) + w)
def grS (aa : Nat → Nat → Nat) (W : Nat → Int64) (Y : Nat) (M : Nat → Int64) : Nat → (Nat → Int64)
  | 0 => M
  | s + 1 => if W s = lN 0 then grS aa W Y M s else grY aa (W s) s (grS aa W Y M s) Y
def aaF (t P : Nat) (A : Nat → Nat) : Nat → Nat → Nat := fun u y => aaL t A u y P
def grM (t P Y : Nat) (A : Nat → Nat) (W M : Nat → Int64) : Nat → Int64 := grS (aaF t P A) W Y (zrL M 16) 16
def grW (t P Y : Nat) (A : Nat → Nat) (W M : Nat → Int64) : Nat → Int64 := cpyL (grM t P Y A W M) W 16
def ctW (t P Y : Nat) (A : Nat → Nat) : Nat → (Nat → Int64) → (Nat → Int64) → (Nat → Int64) × (Nat → Int64)
  | 0, W, M => (W, M)
  | z + 1, W, M => (grW t P Y A (ctW t P Y A z W M).1 (ctW t P Y A z W M).2, grM t P Y A (ctW t P Y A z W M).1 (ctW t P Y A z W M).2)
def smL (p : Nat) (W : Nat → Int64) : Nat → Int64
  | 0 => lN 0
  | s + 1 => smL p W s + (if bt s p = 1 then W s else lN 0)

theorem mw_X8_fits_c20 : Cond.constantLong RX8 20 (9223372036854775807) ∈ wsX8_fits := List.mem_of_getElem? (i := 1) rfl
theorem mw_X8_fits_mm22 : Cond.methodLink RX8 22 Lib.Math.max.name ∈ wsX8_fits := List.mem_of_getElem? (i := 2) rfl
theorem mw_X8_fits_mmsmax : Cond.static Lib.Math.max.name ∈ wsX8_fits := List.mem_of_getElem? (i := 3) rfl
theorem mw_X8_fits_mmi : Cond.initialized "java/lang/Math" ∈ wsX8_fits := List.mem_of_getElem? (i := 4) rfl
theorem mw_X8_fits_mmcmax : Cond.code Lib.Math.max.name Lib.Math.max.code 2 (some .int) ∈ wsX8_fits := List.mem_of_getElem? (i := 5) rfl
set_option maxHeartbeats 4000000 in
set_option maxRecDepth 100000 in
theorem c_X8_fits (Y z : Nat) (hY : 1 ≤ Y) (hY2 : Y ≤ 3) (hz : z ≤ 60) : Ct l yX8_fits wsX8_fits (rmD (1)) D [(cI, .int), (cC, .char), (cJ, .long), (cG, .object "PushdownGameSolver$Game")] [.int (nI Y), .int (nI z)] [] (S := Unit) (fun _ => True) (fun _ => some (.int (nI (b2n (fitL Y z))))) (fun _ => []) := by
  refine Ct.of (lv := [(0, .int (nI Y)), (1, .int (nI z))]) (by decide) rfl (Nat.le_of_ble_eq_true rfl) rfl ?_
  intro ε hL EE FF
  have Lp_5 : ∀ (nf : Nat), ∀ (i : Nat), 60 - i < nf → (i ≤ z) → (fitL Y i = true) → (Y ^ i ≤ MAXL) → J l (rmD (1)) D ε [] 5 [(4, .int (nI i)), (2, .long (lN (Y ^ i))), (0, .int (nI Y)), (1, .int (nI z))] [] := by
    intro nf
    induction nf with
    | zero => intro i hm; exact absurd hm (Nat.not_lt_zero _)
    | succ nf ihp_5 =>
      intro i hm5 hi hk hp
      refine j_iload EE 0 dX8_fits_5 rfl ?_
      refine j_iload_n EE 3 dX8_fits_7 rfl rfl ?_
      refine j_icmp_ge EE 39 dX8_fits_8 (by decide) (fun c8 => ?_) (fun c8 => ?_)
      · skip
        have n8 : z ≤ i := (nI_leI (a := z) (b := i) (by omega) (by omega)).mp c8
        refine j_iconst (v := nI 1) EE dX8_fits_39 (by decide) ?_
        exact j_zret EE FF (by decide) dX8_fits_40 () trivial (by rw [show z = i by omega, hk]; rfl) rfl
      · skip
        have n8 : ¬ z ≤ i := fun hq => c8 ((nI_leI (a := z) (b := i) (by omega) (by omega)).mpr hq)
        refine j_lload_n EE 1 dX8_fits_11 rfl rfl ?_
        refine j_ldc2 EE mw_X8_fits_c20 dX8_fits_12 ?_
        refine j_iconst (v := nI 1) EE dX8_fits_15 (by decide) ?_
        refine j_iload_n EE 2 dX8_fits_16 rfl rfl ?_
        refine j_max EE mw_X8_fits_mm22 mw_X8_fits_mmsmax mw_X8_fits_mmi mw_X8_fits_mmcmax (by decide) (Nat.le_of_ble_eq_true rfl) dX8_fits_17 ?_
        refine j_topE (y := nI Y) (max_1 hY (by omega)) ?_
        refine j_i2l EE dX8_fits_20 ?_
        refine j_topEl (y := lN Y) (i2l_n (by omega)) ?_
        refine j_ldiv EE (fun hz9 => absurd ((pk_lEQ (b := 0) (by omega) (by decide)).mp hz9) (by omega)) dX8_fits_21 ?_
        refine j_topEl (y := lN (MAXL / Y)) (by rw [maxl_e]; exact pk_lDiv (by decide) (by omega) (by omega)) ?_
        refine j_lcmp EE dX8_fits_22 ?_
        refine j_if_le EE 28 dX8_fits_23 (by decide) (fun c23 => ?_) (fun c23 => ?_)
        · skip
          have m23 : Y ^ i ≤ MAXL / Y := (pk_lLE (by unfold MAXL at hp; omega) (Nat.lt_of_le_of_lt (Nat.div_le_self _ _) (by decide))).mp ((lg_cmp_le _ _).mp c23)
          refine j_lload_n EE 1 dX8_fits_28 rfl rfl ?_
          refine j_iload_n EE 2 dX8_fits_29 rfl rfl ?_
          refine j_i2l EE dX8_fits_30 ?_
          refine j_topEl (y := lN Y) (i2l_n (by omega)) ?_
          refine j_lmul EE dX8_fits_31 ?_
          refine j_topEl (y := lN (Y ^ (i + 1))) (by rw [lN_mul, Nat.pow_succ]) ?_
          refine j_lstore_n EE [(2, _), (4, _), (0, _), (1, _)] dX8_fits_32 rfl (Nat.lt_of_lt_of_eq (by decide) hL.symm) rfl ?_
          refine j_iinc (v := nI (i + 1)) EE 1 [(4, .int (nI (i + 1))), (2, _), (0, _), (1, _)] dX8_fits_33 rfl (nI_1 i) (Nat.lt_of_lt_of_eq (by decide) hL.symm) rfl ?_
          refine j_goto EE 5 dX8_fits_36 (by decide) ?_
          exact ihp_5 (i + 1) (by omega) (by omega) (by unfold fitL; rw [hk, decide_eq_true m23]; rfl) (fit_le hY m23)
        · skip
          have m23 : ¬ Y ^ i ≤ MAXL / Y := fun hq => c23 ((lg_cmp_le _ _).mpr ((pk_lLE (by unfold MAXL at hp; omega) (Nat.lt_of_le_of_lt (Nat.div_le_self _ _) (by decide))).mpr hq))
          refine j_iconst (v := nI 0) EE dX8_fits_26 (by decide) ?_
          exact j_zret EE FF (by decide) dX8_fits_27 () trivial (by rw [fitL_f m23 z (by omega)]; rfl) rfl
  refine j_lconst (v := lN 1) EE dX8_fits_0 (by decide) ?_
  refine j_lstore_n EE [(2, _), (0, _), (1, _)] dX8_fits_1 rfl (Nat.lt_of_lt_of_eq (by decide) hL.symm) rfl ?_
  refine j_iconst (v := nI 0) EE dX8_fits_2 (by decide) ?_
  refine j_istore EE [(4, _), (2, _), (0, _), (1, _)] dX8_fits_3 (Nat.lt_of_lt_of_eq (by decide) hL.symm) rfl ?_
  exact Lp_5 _ 0 (Nat.lt_succ_self _) (by omega) rfl (by rw [Nat.pow_zero]; decide)

theorem iw_X8_growByOne_X8 : ∀ w ∈ wsX80, w ∈ wsX8_growByOne := fun _ h => List.mem_cons_of_mem _ (List.mem_append_left _ (List.mem_append_left _ (List.mem_append_right _ h)))
theorem lk_X8_growByOne_15 : Cond.fieldLink RX8 15 (TX8 1).1 (TX8 1).2.1 (TX8 1).2.2.1 ∈ wsX8_growByOne := List.mem_of_getElem? (i := 1) rfl
theorem lk_X8_growByOne_11 : Cond.fieldLink RX8 11 (TX8 0).1 (TX8 0).2.1 (TX8 0).2.2.1 ∈ wsX8_growByOne := List.mem_of_getElem? (i := 2) rfl
theorem mw_X8_growByOne_ac49 : Cond.methodLink RX8 49 arraycopyName ∈ wsX8_growByOne := List.mem_of_getElem? (i := 3) rfl
theorem mw_X8_growByOne_acn : Cond.native arraycopyName ∈ wsX8_growByOne := List.mem_of_getElem? (i := 4) rfl
theorem mw_X8_growByOne_acs : Cond.static arraycopyName ∈ wsX8_growByOne := List.mem_of_getElem? (i := 5) rfl
theorem mw_X8_growByOne_aci : Cond.initialized "java/lang/System" ∈ wsX8_growByOne := List.mem_of_getElem? (i := 6) rfl
set_option maxHeartbeats 4000000 in
set_option maxRecDepth 100000 in
theorem c_X8_growByOne (a wc wm fs b rb fa fc P Y o t n q S h ro sl : Nat) (F A C : Nat → Nat) (W M : Nat → Int64) (hY : Y ≤ 3) (hP : P ≤ 4) (ht : t < 16) (hA : ∀ i, A i < 65536) : Ct l yX8_growByOne wsX8_growByOne (rmD (2)) D [(cI, .int), (cC, .char), (cJ, .long), (cG, .object "PushdownGameSolver$Game")] [.ref (a), .ref (fs), .int (nI Y)] [(a, .inr (4, [.ref (wc), .ref (wm)])), (wc, .inl (cJ, 16, .inr (.inl W))), (wm, .inl (cJ, 16, .inr (.inl M))), (fs, .inr (0, [.ref (b), .ref (fa), .ref (fc), .int (nI ro), .int (nI sl)])), (b, .inr (1, [.int (nI P), .int (nI Y), .int (nI o), .int (nI t), .int (nI n), .ref (rb), .int (nI q), .long (lN S), .int (nI h)])), (rb, .inl (cI, 16, .inl (fun zz => nI (F zz)))), (fa, .inl (cI, 16, .inl (fun zz => nI (A zz)))), (fc, .inl (cI, 16, .inl (fun zz => nI (C zz))))] (S := Unit) (fun _ => True) (fun _ => none) (fun _ => [(a, .inr (4, [.ref (wc), .ref (wm)])), (wc, .inl (cJ, 16, .inr (.inl (grW t P Y A W M)))), (wm, .inl (cJ, 16, .inr (.inl (grM t P Y A W M)))), (fs, .inr (0, [.ref (b), .ref (fa), .ref (fc), .int (nI ro), .int (nI sl)])), (b, .inr (1, [.int (nI P), .int (nI Y), .int (nI o), .int (nI t), .int (nI n), .ref (rb), .int (nI q), .long (lN S), .int (nI h)])), (rb, .inl (cI, 16, .inl (fun zz => nI (F zz)))), (fa, .inl (cI, 16, .inl (fun zz => nI (A zz)))), (fc, .inl (cI, 16, .inl (fun zz => nI (C zz))))]) := by
  refine Ct.of (lv := [(0, .ref (a)), (1, .ref (fs)), (2, .int (nI Y))]) (by decide) rfl (Nat.le_of_ble_eq_true rfl) rfl ?_
  intro ε hL EE FF
  have Lp_23 : ∀ (nf : Nat), ∀ (s : Nat), 16 - s < nf → (s ≤ 16) → J l (rmD (2)) D ε [(a, .inr (4, [.ref (wc), .ref (wm)])), (wc, .inl (cJ, 16, .inr (.inl W))), (wm, .inl (cJ, 16, .inr (.inl (grS (aaF t P A) W Y (zrL M 16) s)))), (fs, .inr (0, [.ref (b), .ref (fa), .ref (fc), .int (nI ro), .int (nI sl)])), (b, .inr (1, [.int (nI P), .int (nI Y), .int (nI o), .int (nI t), .int (nI n), .ref (rb), .int (nI q), .long (lN S), .int (nI h)])), (rb, .inl (cI, 16, .inl (fun zz => nI (F zz)))), (fa, .inl (cI, 16, .inl (fun zz => nI (A zz)))), (fc, .inl (cI, 16, .inl (fun zz => nI (C zz))))] 23 [(3, .int (nI s)), (0, .ref (a)), (1, .ref (fs)), (2, .int (nI Y))] [] := by
    intro nf
    induction nf with
    | zero => intro s hm; exact absurd hm (Nat.not_lt_zero _)
    | succ nf ihp_23 =>
      intro s hm23 hs
      have Lp_43 : ∀ (nf : Nat), ∀ (y : Nat), 4 - y < nf → (y ≤ Y) → (¬ W s = lN 0) → (s < 16) → J l (rmD (2)) D ε [(a, .inr (4, [.ref (wc), .ref (wm)])), (wc, .inl (cJ, 16, .inr (.inl W))), (wm, .inl (cJ, 16, .inr (.inl (grY (aaF t P A) (W s) s (grS (aaF t P A) W Y (zrL M 16) s) y)))), (fs, .inr (0, [.ref (b), .ref (fa), .ref (fc), .int (nI ro), .int (nI sl)])), (b, .inr (1, [.int (nI P), .int (nI Y), .int (nI o), .int (nI t), .int (nI n), .ref (rb), .int (nI q), .long (lN S), .int (nI h)])), (rb, .inl (cI, 16, .inl (fun zz => nI (F zz)))), (fa, .inl (cI, 16, .inl (fun zz => nI (A zz)))), (fc, .inl (cI, 16, .inl (fun zz => nI (C zz))))] 43 [(4, .int (nI y)), (3, .int (nI s)), (0, .ref (a)), (1, .ref (fs)), (2, .int (nI Y))] [] := by
        intro nf
        induction nf with
        | zero => intro y hm; exact absurd hm (Nat.not_lt_zero _)
        | succ nf ihp_43 =>
          intro y hm43 hy m37 hsl
          refine j_iload EE 0 dX8_growByOne_43 rfl ?_
          refine j_iload_n EE 4 dX8_growByOne_45 rfl rfl ?_
          refine j_icmp_ge EE 76 dX8_growByOne_46 (by decide) (fun c46 => ?_) (fun c46 => ?_)
          · skip
            have n46 : Y ≤ y := (nI_leI (a := Y) (b := y) (by omega) (by omega)).mp c46
            refine j_iinc (v := nI (s + 1)) EE 1 [(3, .int (nI (s + 1))), (4, _), (0, _), (1, _), (2, _)] dX8_growByOne_76 rfl (nI_1 s) (Nat.lt_of_lt_of_eq (by decide) hL.symm) rfl ?_
            refine j_goto EE 23 dX8_growByOne_79 (by decide) ?_
            refine j_lv [0, 2, 3, 4] rfl ?_
            first | rw [show grS (aaF t P A) W Y (zrL M 16) s = grS (aaF t P A) W Y (zrL M 16) (s + 1) by conv => rhs; unfold grS; rw [if_pos m37]] | rw [show y = Y by omega, show grY (aaF t P A) (W s) s (grS (aaF t P A) W Y (zrL M 16) s) Y = grS (aaF t P A) W Y (zrL M 16) (s + 1) by conv => rhs; unfold grS; rw [if_neg m37]]
            exact ihp_23 (s + 1) (by omega) (by omega)
          · skip
            have n46 : ¬ Y ≤ y := fun hq => c46 ((nI_leI (a := Y) (b := y) (by omega) (by omega)).mpr hq)
            refine j_aload_n EE 2 dX8_growByOne_49 rfl rfl ?_
            refine j_get (T := TX8) EE iw_X8_growByOne_X8 0 rfl rfl 1 (by decide) lk_X8_growByOne_15 rfl dX8_growByOne_50 ?_
            refine j_aload_n EE 3 dX8_growByOne_53 rfl rfl ?_
            refine j_iload_n EE 1 dX8_growByOne_54 rfl rfl ?_
            refine j_iload EE 0 dX8_growByOne_55 rfl ?_
            refine j_V2 (n9 := 8) EE (c_X0_acceptedAbove fs b rb fa fc P Y o t n q S h ro sl F A C s y (by omega) (by omega) (by omega) (by omega) hA) gX8_growByOne_X0_acceptedAbove ⟨rfl, hd_X0_acceptedAbove⟩ rfl ⟨rfl, rfl⟩ ⟨by decide, by decide⟩ rfl [3, 4, 5, 6, 7] rfl [0, 1, 2] [(a, .inr (4, [.ref (wc), .ref (wm)])), (wc, .inl (cJ, 16, .inr (.inl W))), (wm, .inl (cJ, 16, .inr (.inl (grY (aaF t P A) (W s) s (grS (aaF t P A) W Y (zrL M 16) s) y)))), (fs, .inr (0, [.ref (b), .ref (fa), .ref (fc), .int (nI ro), .int (nI sl)])), (b, .inr (1, [.int (nI P), .int (nI Y), .int (nI o), .int (nI t), .int (nI n), .ref (rb), .int (nI q), .long (lN S), .int (nI h)])), (rb, .inl (cI, 16, .inl (fun zz => nI (F zz)))), (fa, .inl (cI, 16, .inl (fun zz => nI (A zz)))), (fc, .inl (cI, 16, .inl (fun zz => nI (C zz))))] (fun _ => rfl) [(a, .inr (4, [.ref (wc), .ref (wm)])), (wc, .inl (cJ, 16, .inr (.inl W))), (wm, .inl (cJ, 16, .inr (.inl (grY (aaF t P A) (W s) s (grS (aaF t P A) W Y (zrL M 16) s) y))))] [a, wc, wm, fs, b, rb, fa, fc] rfl rfl rfl rfl rfl (by decide) (by decide) 0 rfl rfl rfl (Nat.le_of_ble_eq_true rfl) dX8_growByOne_57 (fun u_57 h_57 => ?_) rfl
            show J l _ D ε _ _ _ (.int (nI (aaL t A s y P)) :: _)
            have hal9 := aaL_lt (A := A) (u := s) (y := y) ht P hP
            refine j_dup2 EE rfl rfl dX8_growByOne_60 ?_
            refine j_lald EE 2 2 rfl rfl (vp_in_nI (n := aaL t A s y P) (by omega) (by decide)) dX8_growByOne_61 ?_
            refine j_topEl (congrArg (grY (aaF t P A) (W s) s (grS (aaF t P A) W Y (zrL M 16) s) y) (nI_clamp (n := aaL t A s y P) (by omega))) ?_
            refine j_aload_n EE 2 dX8_growByOne_62 rfl rfl ?_
            refine j_get (T := TX8) EE iw_X8_growByOne_X8 0 rfl rfl 0 (by decide) lk_X8_growByOne_11 rfl dX8_growByOne_63 ?_
            refine j_iload_n EE 1 dX8_growByOne_66 rfl rfl ?_
            refine j_lald EE 1 2 rfl rfl (vp_in_nI (n := s) (by omega) (by decide)) dX8_growByOne_67 ?_
            refine j_topEl (congrArg W (nI_clamp (n := s) (by omega))) ?_
            refine j_ladd EE dX8_growByOne_68 ?_
            refine j_last (ws' := [(a, .inr (4, [.ref (wc), .ref (wm)])), (wc, .inl (cJ, 16, .inr (.inl W))), (wm, .inl (cJ, 16, .inr (.inl (grY (aaF t P A) (W s) s (grS (aaF t P A) W Y (zrL M 16) s) (y + 1))))), (fs, .inr (0, [.ref (b), .ref (fa), .ref (fc), .int (nI ro), .int (nI sl)])), (b, .inr (1, [.int (nI P), .int (nI Y), .int (nI o), .int (nI t), .int (nI n), .ref (rb), .int (nI q), .long (lN S), .int (nI h)])), (rb, .inl (cI, 16, .inl (fun zz => nI (F zz)))), (fa, .inl (cI, 16, .inl (fun zz => nI (A zz)))), (fc, .inl (cI, 16, .inl (fun zz => nI (C zz))))]) EE 2 2 rfl rfl (vp_in_nI (n := aaL t A s y P) (by omega) (by decide)) (by rw [nI_clamp (by omega)]; rfl) dX8_growByOne_69 ?_
            refine j_iinc (v := nI (y + 1)) EE 0 [(4, .int (nI (y + 1))), (3, _), (0, _), (1, _), (2, _)] dX8_growByOne_70 rfl (nI_1 y) (Nat.lt_of_lt_of_eq (by decide) hL.symm) rfl ?_
            refine j_goto EE 43 dX8_growByOne_73 (by decide) ?_
            exact ihp_43 (y + 1) (by omega) (by omega) m37 hsl
      refine j_iload_n EE 0 dX8_growByOne_23 rfl rfl ?_
      refine j_bipush (v := nI 16) EE dX8_growByOne_24 (by decide) ?_
      refine j_icmp_ge EE 82 dX8_growByOne_26 (by decide) (fun c26 => ?_) (fun c26 => ?_)
      · skip
        have n26 : 16 ≤ s := (nI_leI (a := 16) (b := s) (by omega) (by omega)).mp c26
        refine j_aload_n EE 1 dX8_growByOne_82 rfl rfl ?_
        refine j_get (T := TX8) EE iw_X8_growByOne_X8 0 rfl rfl 1 (by decide) lk_X8_growByOne_15 rfl dX8_growByOne_83 ?_
        refine j_iconst (v := nI 0) EE dX8_growByOne_86 (by decide) ?_
        refine j_aload_n EE 1 dX8_growByOne_87 rfl rfl ?_
        refine j_get (T := TX8) EE iw_X8_growByOne_X8 0 rfl rfl 0 (by decide) lk_X8_growByOne_11 rfl dX8_growByOne_88 ?_
        refine j_iconst (v := nI 0) EE dX8_growByOne_91 (by decide) ?_
        refine j_bipush (v := nI 16) EE dX8_growByOne_92 (by decide) ?_
        refine j_copyl (ws' := [(a, .inr (4, [.ref (wc), .ref (wm)])), (wc, .inl (cJ, 16, .inr (.inl (cpyL (grS (aaF t P A) W Y (zrL M 16) s) W 16)))), (wm, .inl (cJ, 16, .inr (.inl (grS (aaF t P A) W Y (zrL M 16) s)))), (fs, .inr (0, [.ref (b), .ref (fa), .ref (fc), .int (nI ro), .int (nI sl)])), (b, .inr (1, [.int (nI P), .int (nI Y), .int (nI o), .int (nI t), .int (nI n), .ref (rb), .int (nI q), .long (lN S), .int (nI h)])), (rb, .inl (cI, 16, .inl (fun zz => nI (F zz)))), (fa, .inl (cI, 16, .inl (fun zz => nI (A zz)))), (fc, .inl (cI, 16, .inl (fun zz => nI (C zz))))]) EE mw_X8_growByOne_ac49 mw_X8_growByOne_acn mw_X8_growByOne_acs mw_X8_growByOne_aci 2 1 2 2 rfl rfl rfl rfl rfl (by decide) (by decide) (by decide) (by decide) (by decide) (fun _ _ => rfl) (by decide) (Nat.le_of_ble_eq_true rfl) (by rw [cpy_L (grS (aaF t P A) W Y (zrL M 16) s) W 16 (nI 16) rfl (nI 0) (nI 0) rfl rfl]; rfl) dX8_growByOne_94 ?_
        exact j_vret EE FF dX8_growByOne_97 () trivial rfl (by rw [show s = 16 by omega]; rfl)
      · skip
        have n26 : ¬ 16 ≤ s := fun hq => c26 ((nI_leI (a := 16) (b := s) (by omega) (by omega)).mpr hq)
        refine j_aload_n EE 1 dX8_growByOne_29 rfl rfl ?_
        refine j_get (T := TX8) EE iw_X8_growByOne_X8 0 rfl rfl 0 (by decide) lk_X8_growByOne_11 rfl dX8_growByOne_30 ?_
        refine j_iload_n EE 0 dX8_growByOne_33 rfl rfl ?_
        refine j_lald EE 1 2 rfl rfl (vp_in_nI (n := s) (by omega) (by decide)) dX8_growByOne_34 ?_
        refine j_topEl (congrArg W (nI_clamp (n := s) (by omega))) ?_
        refine j_lconst (v := lN 0) EE dX8_growByOne_35 (by decide) ?_
        refine j_lcmp EE dX8_growByOne_36 ?_
        refine j_if_eq EE 76 dX8_growByOne_37 (by decide) (fun c37 => ?_) (fun c37 => ?_)
        · skip
          have m37 : W s = lN 0 := (lg_cmp_eq _ _).mp c37
          refine j_iinc (v := nI (s + 1)) EE 0 [(3, .int (nI (s + 1))), (0, _), (1, _), (2, _)] dX8_growByOne_76 rfl (nI_1 s) (Nat.lt_of_lt_of_eq (by decide) hL.symm) rfl ?_
          refine j_goto EE 23 dX8_growByOne_79 (by decide) ?_
          first | rw [show grS (aaF t P A) W Y (zrL M 16) s = grS (aaF t P A) W Y (zrL M 16) (s + 1) by conv => rhs; unfold grS; rw [if_pos m37]] | rw [show y = Y by omega, show grY (aaF t P A) (W s) s (grS (aaF t P A) W Y (zrL M 16) s) Y = grS (aaF t P A) W Y (zrL M 16) (s + 1) by conv => rhs; unfold grS; rw [if_neg m37]]
          exact ihp_23 (s + 1) (by omega) (by omega)
        · skip
          have m37 : ¬ W s = lN 0 := fun hq => c37 ((lg_cmp_eq _ _).mpr hq)
          refine j_iconst (v := nI 0) EE dX8_growByOne_40 (by decide) ?_
          refine j_istore EE [(4, _), (3, _), (0, _), (1, _), (2, _)] dX8_growByOne_41 (Nat.lt_of_lt_of_eq (by decide) hL.symm) rfl ?_
          exact Lp_43 _ 0 (Nat.lt_succ_self _) (by omega) m37 (by omega)
  have Lp_2 : ∀ (nf : Nat), ∀ (i : Nat), 16 - i < nf → (i ≤ 16) → J l (rmD (2)) D ε [(a, .inr (4, [.ref (wc), .ref (wm)])), (wc, .inl (cJ, 16, .inr (.inl W))), (wm, .inl (cJ, 16, .inr (.inl (zrL M i)))), (fs, .inr (0, [.ref (b), .ref (fa), .ref (fc), .int (nI ro), .int (nI sl)])), (b, .inr (1, [.int (nI P), .int (nI Y), .int (nI o), .int (nI t), .int (nI n), .ref (rb), .int (nI q), .long (lN S), .int (nI h)])), (rb, .inl (cI, 16, .inl (fun zz => nI (F zz)))), (fa, .inl (cI, 16, .inl (fun zz => nI (A zz)))), (fc, .inl (cI, 16, .inl (fun zz => nI (C zz))))] 2 [(3, .int (nI i)), (0, .ref (a)), (1, .ref (fs)), (2, .int (nI Y))] [] := by
    intro nf
    induction nf with
    | zero => intro i hm; exact absurd hm (Nat.not_lt_zero _)
    | succ nf ihp_2 =>
      intro i hm2 hi
      refine j_iload_n EE 0 dX8_growByOne_2 rfl rfl ?_
      refine j_bipush (v := nI 16) EE dX8_growByOne_3 (by decide) ?_
      refine j_icmp_ge EE 21 dX8_growByOne_5 (by decide) (fun c5 => ?_) (fun c5 => ?_)
      · skip
        have n5 : 16 ≤ i := (nI_leI (a := 16) (b := i) (by omega) (by omega)).mp c5
        refine j_iconst (v := nI 0) EE dX8_growByOne_21 (by decide) ?_
        refine j_istore_n EE [(3, _), (0, _), (1, _), (2, _)] dX8_growByOne_22 rfl (Nat.lt_of_lt_of_eq (by decide) hL.symm) rfl ?_
        rw [show i = 16 by omega]
        exact Lp_23 _ 0 (Nat.lt_succ_self _) (by omega)
      · skip
        have n5 : ¬ 16 ≤ i := fun hq => c5 ((nI_leI (a := 16) (b := i) (by omega) (by omega)).mpr hq)
        refine j_aload_n EE 1 dX8_growByOne_8 rfl rfl ?_
        refine j_get (T := TX8) EE iw_X8_growByOne_X8 0 rfl rfl 1 (by decide) lk_X8_growByOne_15 rfl dX8_growByOne_9 ?_
        refine j_iload_n EE 0 dX8_growByOne_12 rfl rfl ?_
        refine j_lconst (v := lN 0) EE dX8_growByOne_13 (by decide) ?_
        refine j_last (ws' := [(a, .inr (4, [.ref (wc), .ref (wm)])), (wc, .inl (cJ, 16, .inr (.inl W))), (wm, .inl (cJ, 16, .inr (.inl (zrL M (i + 1))))), (fs, .inr (0, [.ref (b), .ref (fa), .ref (fc), .int (nI ro), .int (nI sl)])), (b, .inr (1, [.int (nI P), .int (nI Y), .int (nI o), .int (nI t), .int (nI n), .ref (rb), .int (nI q), .long (lN S), .int (nI h)])), (rb, .inl (cI, 16, .inl (fun zz => nI (F zz)))), (fa, .inl (cI, 16, .inl (fun zz => nI (A zz)))), (fc, .inl (cI, 16, .inl (fun zz => nI (C zz))))]) EE 2 2 rfl rfl (vp_in_nI (n := i) (by omega) (by decide)) (by rw [nI_clamp (by omega), zrL_s]; rfl) dX8_growByOne_14 ?_
        refine j_iinc (v := nI (i + 1)) EE 0 [(3, .int (nI (i + 1))), (0, _), (1, _), (2, _)] dX8_growByOne_15 rfl (nI_1 i) (Nat.lt_of_lt_of_eq (by decide) hL.symm) rfl ?_
        refine j_goto EE 2 dX8_growByOne_18 (by decide) ?_
        exact ihp_2 (i + 1) (by omega) (by omega)
  refine j_iconst (v := nI 0) EE dX8_growByOne_0 (by decide) ?_
  refine j_istore_n EE [(3, _), (0, _), (1, _), (2, _)] dX8_growByOne_1 rfl (Nat.lt_of_lt_of_eq (by decide) hL.symm) rfl ?_
  rw [← zrL_0 M]
  exact Lp_2 _ 0 (Nat.lt_succ_self _) (by omega)

theorem mw_X8_countAccepted_iX9 : Cond.initialized RX9 ∈ wsX8_countAccepted := List.mem_of_getElem? (i := 28) rfl
theorem mw_X8_countAccepted_s_X9_bit : Cond.static yX9_bit ∈ wsX8_countAccepted := List.mem_of_getElem? (i := 27) rfl
theorem iw_X8_countAccepted_X8 : ∀ w ∈ wsX80, w ∈ wsX8_countAccepted := fun _ h => List.mem_cons_of_mem _ (List.mem_append_left _ (List.mem_append_left _ (List.mem_append_right _ h)))
theorem lk_X8_countAccepted_11 : Cond.fieldLink RX8 11 (TX8 0).1 (TX8 0).2.1 (TX8 0).2.2.1 ∈ wsX8_countAccepted := List.mem_of_getElem? (i := 1) rfl
theorem iw_X8_countAccepted_X1 : ∀ w ∈ wsX10, w ∈ wsX8_countAccepted := fun _ h => List.mem_cons_of_mem _ (List.mem_append_left _ (List.mem_append_right _ h))
theorem lk_X8_countAccepted_34 : Cond.fieldLink RX8 34 (TX1 1).1 (TX1 1).2.1 (TX1 1).2.2.1 ∈ wsX8_countAccepted := List.mem_of_getElem? (i := 3) rfl
theorem hd_X8_growByOne : yX8_growByOne.cls ≠ "java/lang/invoke/MethodHandle" ∧ yX8_growByOne.cls ≠ "java/lang/invoke/VarHandle" ∧ (parseMethodDescriptor yX8_growByOne.desc).map (fun d => d.parameters.length) = some 2 := by decide +kernel
theorem lk_X8_countAccepted_28 : Cond.fieldLink RX8 28 (TX1 3).1 (TX1 3).2.1 (TX1 3).2.2.1 ∈ wsX8_countAccepted := List.mem_of_getElem? (i := 2) rfl
set_option maxHeartbeats 4000000 in
set_option maxRecDepth 100000 in
theorem c_X8_countAccepted (a wc wm fs b rb fa fc P Y o t n q S h ro sl : Nat) (F A C : Nat → Nat) (W M : Nat → Int64) (p z : Nat) (hp : p < 4) (hz : z ≤ 60) (hY : Y ≤ 3) (hP : P ≤ 4) (ht : t < 16) (hA : ∀ i, A i < 65536) : Ct l yX8_countAccepted wsX8_countAccepted (rmD (3)) D [(cI, .int), (cC, .char), (cJ, .long), (cG, .object "PushdownGameSolver$Game")] [.ref (a), .ref (fs), .ref (b), .int (nI p), .int (nI z)] [(a, .inr (4, [.ref (wc), .ref (wm)])), (wc, .inl (cJ, 16, .inr (.inl W))), (wm, .inl (cJ, 16, .inr (.inl M))), (fs, .inr (0, [.ref (b), .ref (fa), .ref (fc), .int (nI ro), .int (nI sl)])), (b, .inr (1, [.int (nI P), .int (nI Y), .int (nI o), .int (nI t), .int (nI n), .ref (rb), .int (nI q), .long (lN S), .int (nI h)])), (rb, .inl (cI, 16, .inl (fun zz => nI (F zz)))), (fa, .inl (cI, 16, .inl (fun zz => nI (A zz)))), (fc, .inl (cI, 16, .inl (fun zz => nI (C zz))))] (S := Unit) (fun _ => True) (fun _ => some (.long (smL p (ctW t P Y A z (inL t W 16) M).1 16))) (fun _ => [(a, .inr (4, [.ref (wc), .ref (wm)])), (wc, .inl (cJ, 16, .inr (.inl ((ctW t P Y A z (inL t W 16) M).1)))), (wm, .inl (cJ, 16, .inr (.inl ((ctW t P Y A z (inL t W 16) M).2)))), (fs, .inr (0, [.ref (b), .ref (fa), .ref (fc), .int (nI ro), .int (nI sl)])), (b, .inr (1, [.int (nI P), .int (nI Y), .int (nI o), .int (nI t), .int (nI n), .ref (rb), .int (nI q), .long (lN S), .int (nI h)])), (rb, .inl (cI, 16, .inl (fun zz => nI (F zz)))), (fa, .inl (cI, 16, .inl (fun zz => nI (A zz)))), (fc, .inl (cI, 16, .inl (fun zz => nI (C zz))))]) := by
  refine Ct.of (lv := [(0, .ref (a)), (1, .ref (fs)), (2, .ref (b)), (3, .int (nI p)), (4, .int (nI z))]) (by decide) rfl (Nat.le_of_ble_eq_true rfl) rfl ?_
  intro ε hL EE FF
  have Lp_68 : ∀ (nf : Nat), ∀ (s : Nat), 16 - s < nf → (s ≤ 16) → J l (rmD (3)) D ε [(a, .inr (4, [.ref (wc), .ref (wm)])), (wc, .inl (cJ, 16, .inr (.inl ((ctW t P Y A z (inL t W 16) M).1)))), (wm, .inl (cJ, 16, .inr (.inl ((ctW t P Y A z (inL t W 16) M).2)))), (fs, .inr (0, [.ref (b), .ref (fa), .ref (fc), .int (nI ro), .int (nI sl)])), (b, .inr (1, [.int (nI P), .int (nI Y), .int (nI o), .int (nI t), .int (nI n), .ref (rb), .int (nI q), .long (lN S), .int (nI h)])), (rb, .inl (cI, 16, .inl (fun zz => nI (F zz)))), (fa, .inl (cI, 16, .inl (fun zz => nI (A zz)))), (fc, .inl (cI, 16, .inl (fun zz => nI (C zz))))] 68 [(7, .int (nI s)), (5, .long (smL p (ctW t P Y A z (inL t W 16) M).1 s)), (0, .ref (a)), (1, .ref (fs)), (2, .ref (b)), (3, .int (nI p)), (4, .int (nI z))] [] := by
    intro nf
    induction nf with
    | zero => intro s hm; exact absurd hm (Nat.not_lt_zero _)
    | succ nf ihp_68 =>
      intro s hm68 hs
      refine j_iload EE 0 dX8_countAccepted_68 rfl ?_
      refine j_bipush (v := nI 16) EE dX8_countAccepted_70 (by decide) ?_
      refine j_icmp_ge EE 107 dX8_countAccepted_72 (by decide) (fun c72 => ?_) (fun c72 => ?_)
      · skip
        have n72 : 16 ≤ s := (nI_leI (a := 16) (b := s) (by omega) (by omega)).mp c72
        refine j_lload EE 1 dX8_countAccepted_107 rfl ?_
        exact j_lret EE FF dX8_countAccepted_109 () trivial (by rw [show 16 = s by omega]) rfl
      · skip
        have n72 : ¬ 16 ≤ s := fun hq => c72 ((nI_leI (a := 16) (b := s) (by omega) (by omega)).mpr hq)
        refine j_lload EE 1 dX8_countAccepted_75 rfl ?_
        refine j_iload EE 0 dX8_countAccepted_77 rfl ?_
        refine j_iload_n EE 5 dX8_countAccepted_79 rfl rfl ?_
        refine j_SN2 (n9 := 8) EE (c_X9_bit s p (by omega) (by omega)) gX8_countAccepted_X9_bit_n41 hd_X9_bit (by decide) mw_X8_countAccepted_iX9 mw_X8_countAccepted_s_X9_bit rfl ⟨rfl, rfl⟩ ⟨by decide, by decide⟩ rfl [] rfl [0, 1, 2, 3, 4, 5, 6, 7] [(a, .inr (4, [.ref (wc), .ref (wm)])), (wc, .inl (cJ, 16, .inr (.inl ((ctW t P Y A z (inL t W 16) M).1)))), (wm, .inl (cJ, 16, .inr (.inl ((ctW t P Y A z (inL t W 16) M).2)))), (fs, .inr (0, [.ref (b), .ref (fa), .ref (fc), .int (nI ro), .int (nI sl)])), (b, .inr (1, [.int (nI P), .int (nI Y), .int (nI o), .int (nI t), .int (nI n), .ref (rb), .int (nI q), .long (lN S), .int (nI h)])), (rb, .inl (cI, 16, .inl (fun zz => nI (F zz)))), (fa, .inl (cI, 16, .inl (fun zz => nI (A zz)))), (fc, .inl (cI, 16, .inl (fun zz => nI (C zz))))] (fun _ => rfl) [(a, .inr (4, [.ref (wc), .ref (wm)])), (wc, .inl (cJ, 16, .inr (.inl ((ctW t P Y A z (inL t W 16) M).1)))), (wm, .inl (cJ, 16, .inr (.inl ((ctW t P Y A z (inL t W 16) M).2)))), (fs, .inr (0, [.ref (b), .ref (fa), .ref (fc), .int (nI ro), .int (nI sl)])), (b, .inr (1, [.int (nI P), .int (nI Y), .int (nI o), .int (nI t), .int (nI n), .ref (rb), .int (nI q), .long (lN S), .int (nI h)])), (rb, .inl (cI, 16, .inl (fun zz => nI (F zz)))), (fa, .inl (cI, 16, .inl (fun zz => nI (A zz)))), (fc, .inl (cI, 16, .inl (fun zz => nI (C zz))))] [a, wc, wm, fs, b, rb, fa, fc] rfl rfl rfl rfl rfl (by decide) (by decide) rfl (Nat.le_of_ble_eq_true rfl) dX8_countAccepted_80 (fun u_80 h_80 => ?_) rfl
        show J l _ D ε _ _ _ (.int (nI (bt s p)) :: _)
        refine j_iconst (v := nI 1) EE dX8_countAccepted_83 (by decide) ?_
        refine j_icmp_ne EE 97 dX8_countAccepted_84 (by decide) (fun c84 => ?_) (fun c84 => ?_)
        · skip
          have n84 : (bt s p) ≠ 1 := fun hq => c84 ((nI_eq (a := (bt s p)) (b := 1) (by have := bt_lt s p; omega) (by have := bt_lt s p; omega)).mpr hq)
          refine j_lconst (v := lN 0) EE dX8_countAccepted_97 (by decide) ?_
          refine j_ladd EE dX8_countAccepted_98 ?_
          refine j_lstore EE [(5, _), (7, _), (0, _), (1, _), (2, _), (3, _), (4, _)] dX8_countAccepted_99 (Nat.lt_of_lt_of_eq (by decide) hL.symm) rfl ?_
          refine j_iinc (v := nI (s + 1)) EE 1 [(7, .int (nI (s + 1))), (5, _), (0, _), (1, _), (2, _), (3, _), (4, _)] dX8_countAccepted_101 rfl (nI_1 s) (Nat.lt_of_lt_of_eq (by decide) hL.symm) rfl ?_
          refine j_goto EE 68 dX8_countAccepted_104 (by decide) ?_
          first | rw [show smL p (ctW t P Y A z (inL t W 16) M).1 s + (ctW t P Y A z (inL t W 16) M).1 s = smL p (ctW t P Y A z (inL t W 16) M).1 (s + 1) by conv => rhs; unfold smL; rw [if_pos n84]] | rw [show smL p (ctW t P Y A z (inL t W 16) M).1 s + lN 0 = smL p (ctW t P Y A z (inL t W 16) M).1 (s + 1) by conv => rhs; unfold smL; rw [if_neg n84]]
          exact ihp_68 (s + 1) (by omega) (by omega)
        · skip
          have n84 : (bt s p) = 1 := (nI_eq (a := (bt s p)) (b := 1) (by have := bt_lt s p; omega) (by have := bt_lt s p; omega)).mp c84
          refine j_aload_n EE 2 dX8_countAccepted_87 rfl rfl ?_
          refine j_get (T := TX8) EE iw_X8_countAccepted_X8 0 rfl rfl 0 (by decide) lk_X8_countAccepted_11 rfl dX8_countAccepted_88 ?_
          refine j_iload EE 0 dX8_countAccepted_91 rfl ?_
          refine j_lald EE 1 2 rfl rfl (vp_in_nI (n := s) (by omega) (by decide)) dX8_countAccepted_93 ?_
          refine j_topEl (congrArg ((ctW t P Y A z (inL t W 16) M).1) (nI_clamp (n := s) (by omega))) ?_
          refine j_goto EE 98 dX8_countAccepted_94 (by decide) ?_
          refine j_ladd EE dX8_countAccepted_98 ?_
          refine j_lstore EE [(5, _), (7, _), (0, _), (1, _), (2, _), (3, _), (4, _)] dX8_countAccepted_99 (Nat.lt_of_lt_of_eq (by decide) hL.symm) rfl ?_
          refine j_iinc (v := nI (s + 1)) EE 1 [(7, .int (nI (s + 1))), (5, _), (0, _), (1, _), (2, _), (3, _), (4, _)] dX8_countAccepted_101 rfl (nI_1 s) (Nat.lt_of_lt_of_eq (by decide) hL.symm) rfl ?_
          refine j_goto EE 68 dX8_countAccepted_104 (by decide) ?_
          first | rw [show smL p (ctW t P Y A z (inL t W 16) M).1 s + (ctW t P Y A z (inL t W 16) M).1 s = smL p (ctW t P Y A z (inL t W 16) M).1 (s + 1) by conv => rhs; unfold smL; rw [if_pos n84]] | rw [show smL p (ctW t P Y A z (inL t W 16) M).1 s + lN 0 = smL p (ctW t P Y A z (inL t W 16) M).1 (s + 1) by conv => rhs; unfold smL; rw [if_neg n84]]
          exact ihp_68 (s + 1) (by omega) (by omega)
  have Lp_40 : ∀ (nf : Nat), ∀ (i : Nat), 60 - i < nf → (i ≤ z) → J l (rmD (3)) D ε [(a, .inr (4, [.ref (wc), .ref (wm)])), (wc, .inl (cJ, 16, .inr (.inl ((ctW t P Y A i (inL t W 16) M).1)))), (wm, .inl (cJ, 16, .inr (.inl ((ctW t P Y A i (inL t W 16) M).2)))), (fs, .inr (0, [.ref (b), .ref (fa), .ref (fc), .int (nI ro), .int (nI sl)])), (b, .inr (1, [.int (nI P), .int (nI Y), .int (nI o), .int (nI t), .int (nI n), .ref (rb), .int (nI q), .long (lN S), .int (nI h)])), (rb, .inl (cI, 16, .inl (fun zz => nI (F zz)))), (fa, .inl (cI, 16, .inl (fun zz => nI (A zz)))), (fc, .inl (cI, 16, .inl (fun zz => nI (C zz))))] 40 [(5, .int (nI i)), (0, .ref (a)), (1, .ref (fs)), (2, .ref (b)), (3, .int (nI p)), (4, .int (nI z))] [] := by
    intro nf
    induction nf with
    | zero => intro i hm; exact absurd hm (Nat.not_lt_zero _)
    | succ nf ihp_40 =>
      intro i hm40 hi
      refine j_iload EE 0 dX8_countAccepted_40 rfl ?_
      refine j_iload EE 5 dX8_countAccepted_42 rfl ?_
      refine j_icmp_ge EE 62 dX8_countAccepted_44 (by decide) (fun c44 => ?_) (fun c44 => ?_)
      · skip
        have n44 : z ≤ i := (nI_leI (a := z) (b := i) (by omega) (by omega)).mp c44
        refine j_lconst (v := lN 0) EE dX8_countAccepted_62 (by decide) ?_
        refine j_lstore EE [(5, _), (0, _), (1, _), (2, _), (3, _), (4, _)] dX8_countAccepted_63 (Nat.lt_of_lt_of_eq (by decide) hL.symm) rfl ?_
        refine j_iconst (v := nI 0) EE dX8_countAccepted_65 (by decide) ?_
        refine j_istore EE [(7, _), (5, _), (0, _), (1, _), (2, _), (3, _), (4, _)] dX8_countAccepted_66 (Nat.lt_of_lt_of_eq (by decide) hL.symm) rfl ?_
        rw [show i = z by omega]
        exact Lp_68 _ 0 (Nat.lt_succ_self _) (by omega)
      · skip
        have n44 : ¬ z ≤ i := fun hq => c44 ((nI_leI (a := z) (b := i) (by omega) (by omega)).mpr hq)
        refine j_aload_n EE 1 dX8_countAccepted_47 rfl rfl ?_
        refine j_aload_n EE 2 dX8_countAccepted_48 rfl rfl ?_
        refine j_aload_n EE 3 dX8_countAccepted_49 rfl rfl ?_
        refine j_get (T := TX1) EE iw_X8_countAccepted_X1 4 rfl rfl 1 (by decide) lk_X8_countAccepted_34 rfl dX8_countAccepted_50 ?_
        refine j_V2 (n9 := 8) EE (c_X8_growByOne a wc wm fs b rb fa fc P Y o t n q S h ro sl F A C ((ctW t P Y A i (inL t W 16) M).1) ((ctW t P Y A i (inL t W 16) M).2) (by omega) (by omega) (by omega) hA) gX8_countAccepted_X8_growByOne ⟨rfl, hd_X8_growByOne⟩ rfl ⟨rfl, rfl⟩ ⟨by decide, by decide⟩ rfl [0, 1, 2, 3, 4, 5, 6, 7] rfl [] [(a, .inr (4, [.ref (wc), .ref (wm)])), (wc, .inl (cJ, 16, .inr (.inl (grW t P Y A ((ctW t P Y A i (inL t W 16) M).1) ((ctW t P Y A i (inL t W 16) M).2))))), (wm, .inl (cJ, 16, .inr (.inl (grM t P Y A ((ctW t P Y A i (inL t W 16) M).1) ((ctW t P Y A i (inL t W 16) M).2))))), (fs, .inr (0, [.ref (b), .ref (fa), .ref (fc), .int (nI ro), .int (nI sl)])), (b, .inr (1, [.int (nI P), .int (nI Y), .int (nI o), .int (nI t), .int (nI n), .ref (rb), .int (nI q), .long (lN S), .int (nI h)])), (rb, .inl (cI, 16, .inl (fun zz => nI (F zz)))), (fa, .inl (cI, 16, .inl (fun zz => nI (A zz)))), (fc, .inl (cI, 16, .inl (fun zz => nI (C zz))))] (fun _ => rfl) [] [a, wc, wm, fs, b, rb, fa, fc] rfl rfl rfl rfl rfl (by decide) (by decide) 0 rfl rfl rfl (Nat.le_of_ble_eq_true rfl) dX8_countAccepted_53 (fun u_53 h_53 => ?_) rfl
        refine j_iinc (v := nI (i + 1)) EE 0 [(5, .int (nI (i + 1))), (0, _), (1, _), (2, _), (3, _), (4, _)] dX8_countAccepted_56 rfl (nI_1 i) (Nat.lt_of_lt_of_eq (by decide) hL.symm) rfl ?_
        refine j_goto EE 40 dX8_countAccepted_59 (by decide) ?_
        exact ihp_40 (i + 1) (by omega) (by omega)
  have Lp_3 : ∀ (nf : Nat), ∀ (i : Nat), 16 - i < nf → (i ≤ 16) → J l (rmD (3)) D ε [(a, .inr (4, [.ref (wc), .ref (wm)])), (wc, .inl (cJ, 16, .inr (.inl (inL t W i)))), (wm, .inl (cJ, 16, .inr (.inl M))), (fs, .inr (0, [.ref (b), .ref (fa), .ref (fc), .int (nI ro), .int (nI sl)])), (b, .inr (1, [.int (nI P), .int (nI Y), .int (nI o), .int (nI t), .int (nI n), .ref (rb), .int (nI q), .long (lN S), .int (nI h)])), (rb, .inl (cI, 16, .inl (fun zz => nI (F zz)))), (fa, .inl (cI, 16, .inl (fun zz => nI (A zz)))), (fc, .inl (cI, 16, .inl (fun zz => nI (C zz))))] 3 [(5, .int (nI i)), (0, .ref (a)), (1, .ref (fs)), (2, .ref (b)), (3, .int (nI p)), (4, .int (nI z))] [] := by
    intro nf
    induction nf with
    | zero => intro i hm; exact absurd hm (Nat.not_lt_zero _)
    | succ nf ihp_3 =>
      intro i hm3 hi
      refine j_iload EE 0 dX8_countAccepted_3 rfl ?_
      refine j_bipush (v := nI 16) EE dX8_countAccepted_5 (by decide) ?_
      refine j_icmp_ge EE 37 dX8_countAccepted_7 (by decide) (fun c7 => ?_) (fun c7 => ?_)
      · skip
        have n7 : 16 ≤ i := (nI_leI (a := 16) (b := i) (by omega) (by omega)).mp c7
        refine j_iconst (v := nI 0) EE dX8_countAccepted_37 (by decide) ?_
        refine j_istore EE [(5, _), (0, _), (1, _), (2, _), (3, _), (4, _)] dX8_countAccepted_38 (Nat.lt_of_lt_of_eq (by decide) hL.symm) rfl ?_
        rw [show i = 16 by omega]
        exact Lp_40 _ 0 (Nat.lt_succ_self _) (by omega)
      · skip
        have n7 : ¬ 16 ≤ i := fun hq => c7 ((nI_leI (a := 16) (b := i) (by omega) (by omega)).mpr hq)
        refine j_aload_n EE 1 dX8_countAccepted_10 rfl rfl ?_
        refine j_get (T := TX8) EE iw_X8_countAccepted_X8 0 rfl rfl 0 (by decide) lk_X8_countAccepted_11 rfl dX8_countAccepted_11 ?_
        refine j_iload EE 0 dX8_countAccepted_14 rfl ?_
        refine j_iload EE 0 dX8_countAccepted_16 rfl ?_
        refine j_aload_n EE 3 dX8_countAccepted_18 rfl rfl ?_
        refine j_get (T := TX1) EE iw_X8_countAccepted_X1 4 rfl rfl 3 (by decide) lk_X8_countAccepted_28 rfl dX8_countAccepted_19 ?_
        refine j_icmp_ne EE 29 dX8_countAccepted_22 (by decide) (fun c22 => ?_) (fun c22 => ?_)
        · skip
          have n22 : i ≠ t := fun hq => c22 ((nI_eq (a := i) (b := t) (by omega) (by omega)).mpr hq)
          refine j_lconst (v := lN 0) EE dX8_countAccepted_29 (by decide) ?_
          refine j_last (ws' := [(a, .inr (4, [.ref (wc), .ref (wm)])), (wc, .inl (cJ, 16, .inr (.inl (inL t W (i + 1))))), (wm, .inl (cJ, 16, .inr (.inl M))), (fs, .inr (0, [.ref (b), .ref (fa), .ref (fc), .int (nI ro), .int (nI sl)])), (b, .inr (1, [.int (nI P), .int (nI Y), .int (nI o), .int (nI t), .int (nI n), .ref (rb), .int (nI q), .long (lN S), .int (nI h)])), (rb, .inl (cI, 16, .inl (fun zz => nI (F zz)))), (fa, .inl (cI, 16, .inl (fun zz => nI (A zz)))), (fc, .inl (cI, 16, .inl (fun zz => nI (C zz))))]) EE 1 2 rfl rfl (vp_in_nI (n := i) (by omega) (by decide)) (by rw [nI_clamp (by omega), inL_s t W i _ (by first | rw [if_pos n22] | rw [if_neg n22])]; rfl) dX8_countAccepted_30 ?_
          refine j_iinc (v := nI (i + 1)) EE 0 [(5, .int (nI (i + 1))), (0, _), (1, _), (2, _), (3, _), (4, _)] dX8_countAccepted_31 rfl (nI_1 i) (Nat.lt_of_lt_of_eq (by decide) hL.symm) rfl ?_
          refine j_goto EE 3 dX8_countAccepted_34 (by decide) ?_
          exact ihp_3 (i + 1) (by omega) (by omega)
        · skip
          have n22 : i = t := (nI_eq (a := i) (b := t) (by omega) (by omega)).mp c22
          refine j_lconst (v := lN 1) EE dX8_countAccepted_25 (by decide) ?_
          refine j_goto EE 30 dX8_countAccepted_26 (by decide) ?_
          refine j_last (ws' := [(a, .inr (4, [.ref (wc), .ref (wm)])), (wc, .inl (cJ, 16, .inr (.inl (inL t W (i + 1))))), (wm, .inl (cJ, 16, .inr (.inl M))), (fs, .inr (0, [.ref (b), .ref (fa), .ref (fc), .int (nI ro), .int (nI sl)])), (b, .inr (1, [.int (nI P), .int (nI Y), .int (nI o), .int (nI t), .int (nI n), .ref (rb), .int (nI q), .long (lN S), .int (nI h)])), (rb, .inl (cI, 16, .inl (fun zz => nI (F zz)))), (fa, .inl (cI, 16, .inl (fun zz => nI (A zz)))), (fc, .inl (cI, 16, .inl (fun zz => nI (C zz))))]) EE 1 2 rfl rfl (vp_in_nI (n := i) (by omega) (by decide)) (by rw [nI_clamp (by omega), inL_s t W i _ (by first | rw [if_pos n22] | rw [if_neg n22])]; rfl) dX8_countAccepted_30 ?_
          refine j_iinc (v := nI (i + 1)) EE 0 [(5, .int (nI (i + 1))), (0, _), (1, _), (2, _), (3, _), (4, _)] dX8_countAccepted_31 rfl (nI_1 i) (Nat.lt_of_lt_of_eq (by decide) hL.symm) rfl ?_
          refine j_goto EE 3 dX8_countAccepted_34 (by decide) ?_
          exact ihp_3 (i + 1) (by omega) (by omega)
  refine j_iconst (v := nI 0) EE dX8_countAccepted_0 (by decide) ?_
  refine j_istore EE [(5, _), (0, _), (1, _), (2, _), (3, _), (4, _)] dX8_countAccepted_1 (Nat.lt_of_lt_of_eq (by decide) hL.symm) rfl ?_
  rw [← inL_0 t W]
  exact Lp_3 _ 0 (Nat.lt_succ_self _) (by omega)

end G_28_count
