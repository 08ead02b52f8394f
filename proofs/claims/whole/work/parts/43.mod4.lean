section G_43_mod4
variable {l : Launch} {D : va_G} {cI cC cJ cG : ClassId}

def yV (B : Nat → Nat) (lo s a0 : Nat) : Nat → Nat
  | 0 => a0
  | v + 1 => if yV B lo s a0 v = 0 then 0 else if bt s v = 1 then unO (yV B lo s a0 v) (B (3 * v + lo)) 16 else yV B lo s a0 v
theorem yV_lt {B : Nat → Nat} {lo s a0 : Nat} (h0 : a0 < 65536) : ∀ v, yV B lo s a0 v < 65536
  | 0 => h0
  | v + 1 => by
    unfold yV
    split
    · omega
    · split
      · exact unO_lt _ _ 16 (Nat.le_refl _)
      · exact yV_lt h0 v
theorem yV_z {B : Nat → Nat} {lo s a0 v : Nat} (h : yV B lo s a0 v = 0) : ∀ k, yV B lo s a0 (v + k) = 0
  | 0 => h
  | k + 1 => by
    show yV B lo s a0 ((v + k) + 1) = 0
    unfold yV
    rw [if_pos (yV_z h k)]
def yS (B : Nat → Nat) (ab lo : Nat) : Nat → Nat
  | 0 => 0
  | s + 1 => yS B ab lo s ||| yV B lo s (bt ab s) 4
theorem yS_lt {B : Nat → Nat} {ab lo : Nat} : ∀ s, yS B ab lo s < 65536
  | 0 => Nat.le_of_ble_eq_true rfl
  | s + 1 => or_lt (yS_lt s) (yV_lt (by have := bt_lt ab s; omega) 4)
def yM (F B : Nat → Nat) (r : Nat) : Nat := if bt (F 3) (F (5 + 5 * r + 2)) = 1 then 1 else if F (5 + 5 * r + 3) = 0 then 1 <<< (1 <<< F (5 + 5 * r + 2)) else if F (5 + 5 * r + 4) = 0 then B (3 * F (5 + 5 * r + 2) + (F (5 + 5 * r + 3) - 1)) else yS B (B (3 * F (5 + 5 * r + 2) + (F (5 + 5 * r + 3) - 1))) (F (5 + 5 * r + 4) - 1) 16
theorem yM_lt {F B : Nat → Nat} {r : Nat} (hq : F (5 + 5 * r + 2) < 4) (hB : ∀ i, B i < 65536) : yM F B r < 65536 := by
  unfold yM
  split
  · omega
  · split
    · exact sh_lt _ (sh4 _ hq)
    · split
      · exact hB _
      · exact yS_lt 16
def ftA (F : Nat → Nat) (p y : Nat) : Nat → Nat
  | 0 => 0
  | r + 1 => if F (5 + 5 * r) = p ∧ F (5 + 5 * r + 1) = y then 1 else ftA F p y r
def ftS (F B : Nat → Nat) (p y : Nat) : Nat → Nat
  | 0 => 0
  | r + 1 => if F (5 + 5 * r) = p ∧ F (5 + 5 * r + 1) = y then (if ftA F p y r = 0 then yM F B r else if bt (F 2) p = 1 then unO (ftS F B p y r) (yM F B r) 16 else ftS F B p y r ||| yM F B r) else ftS F B p y r
theorem ftA_lt (F : Nat → Nat) (p y : Nat) : ∀ r, ftA F p y r < 2
  | 0 => Nat.le_of_ble_eq_true rfl
  | r + 1 => by
    unfold ftA
    split
    · omega
    · exact ftA_lt F p y r
def mRu (F : Nat → Nat) : Prop := ∀ r, r < F 4 → F (5 + 5 * r + 2) < 4 ∧ F (5 + 5 * r + 3) ≤ 3 ∧ F (5 + 5 * r + 4) ≤ 3
theorem ftS_lt {F B : Nat → Nat} {p y : Nat} (hru : mRu F) (hB : ∀ i, B i < 65536) : ∀ r, r ≤ F 4 → ftS F B p y r < 65536
  | 0, _ => Nat.le_of_ble_eq_true rfl
  | r + 1, hr => by
    have h1 := ftS_lt (p := p) (y := y) hru hB r (by omega)
    have h2 := yM_lt (hru r (by omega)).1 hB
    unfold ftS
    split
    · split
      · exact h2
      · split
        · exact unO_lt _ _ 16 (Nat.le_refl _)
        · exact or_lt h1 h2
    · exact h1
def ftM (F B : Nat → Nat) (p y : Nat) : Nat := if bt (F 3) p = 1 then 1 else miO (ftS F B p y (F 4)) 16
theorem ftM_lt {F B : Nat → Nat} {p y : Nat} (hru : mRu F) (hB : ∀ i, B i < 65536) : ftM F B p y < 65536 := by
  unfold ftM
  split
  · omega
  · exact miO_lt (ftS_lt hru hB _ (Nat.le_refl _)) 16
def bgM (F B : Nat → Nat) (k : Nat) : Nat → Nat := fun i => if i < k then b2n (decide (bt (F 3) (i / 3) = 1 ∧ i / 3 < F 0)) else B i
theorem bgM_0 (F B : Nat → Nat) : bgM F B 0 = B := by funext i; unfold bgM; rw [if_neg (by omega)]
theorem bgM_s (F B : Nat → Nat) (k x : Nat) (hx : x = b2n (decide (bt (F 3) (k / 3) = 1 ∧ k / 3 < F 0))) : updN (bgM F B k) k x = bgM F B (k + 1) := by
  subst hx
  funext i
  unfold updN bgM
  by_cases h : i = k
  · subst h; rw [if_pos rfl, if_pos (by omega)]
  · rw [if_neg h]
    by_cases h2 : i < k
    · rw [if_pos h2, if_pos (by omega)]
    · rw [if_neg h2, if_neg (by omega)]
theorem bgM_lt {F B : Nat → Nat} {k : Nat} (hB : ∀ i, B i < 65536) (i : Nat) : bgM F B k i < 65536 := by
  unfold bgM
  split
  · have := b2n_lt (decide (bt (F 3) (i / 3) = 1 ∧ i / 3 < F 0)); omega
  · exact hB i
def thM (F B Bt : Nat → Nat) (p y : Nat) : Nat → Nat := fun i => if (i / 3 < p ∨ (i / 3 = p ∧ i % 3 < y)) ∧ i % 3 < F 1 then ftM F B (i / 3) (i % 3) else Bt i
theorem thM_0 (F B Bt : Nat → Nat) : thM F B Bt 0 0 = Bt := by funext i; unfold thM; rw [if_neg (by omega)]
theorem thM_s {F B Bt : Nat → Nat} {p y : Nat} (hy : y < F 1) (hY : F 1 ≤ 3) : updN (thM F B Bt p y) (3 * p + y) (ftM F B p y) = thM F B Bt p (y + 1) := by
  funext i
  unfold updN thM
  by_cases h : i = 3 * p + y
  · subst h
    rw [if_pos rfl, if_pos (by omega), show (3 * p + y) / 3 = p by omega, show (3 * p + y) % 3 = y by omega]
  · rw [if_neg h]
    by_cases h2 : (i / 3 < p ∨ (i / 3 = p ∧ i % 3 < y)) ∧ i % 3 < F 1
    · rw [if_pos h2, if_pos (by omega)]
    · rw [if_neg h2, if_neg (by omega)]
theorem thM_r {F B Bt : Nat → Nat} {p : Nat} : thM F B Bt p (F 1) = thM F B Bt (p + 1) 0 := by
  funext i
  unfold thM
  by_cases h2 : (i / 3 < p ∨ (i / 3 = p ∧ i % 3 < F 1)) ∧ i % 3 < F 1
  · rw [if_pos h2, if_pos (by omega)]
  · rw [if_neg h2, if_neg (by omega)]
def chM (F B : Nat → Nat) (p y : Nat) : Bool := (List.range 12).any (fun i => decide (((i / 3 < p ∨ (i / 3 = p ∧ i % 3 < y)) ∧ i % 3 < F 1) ∧ ftM F B (i / 3) (i % 3) ≠ B i))
theorem chM_iff {F B : Nat → Nat} {p y : Nat} : chM F B p y = true ↔ ∃ i, i < 12 ∧ ((i / 3 < p ∨ (i / 3 = p ∧ i % 3 < y)) ∧ i % 3 < F 1) ∧ ftM F B (i / 3) (i % 3) ≠ B i := by
  unfold chM
  rw [List.any_eq_true]
  constructor
  · rintro ⟨i, h1, h2⟩
    exact ⟨i, List.mem_range.mp h1, of_decide_eq_true h2⟩
  · rintro ⟨i, h1, h2⟩
    exact ⟨i, List.mem_range.mpr h1, decide_eq_true h2⟩
theorem chM_0 (F B : Nat → Nat) : chM F B 0 0 = false := by
  rw [Bool.eq_false_iff, Ne, chM_iff]
  rintro ⟨i, h1, h2, h3⟩
  omega
theorem chM_t {F B : Nat → Nat} {p y : Nat} (h : chM F B p y = true) : chM F B p (y + 1) = true := by
  rw [chM_iff] at h ⊢
  obtain ⟨i, h1, h2, h3⟩ := h
  exact ⟨i, h1, by omega, h3⟩
theorem chM_n {F B : Nat → Nat} {p y : Nat} (hy : y < F 1) (hY : F 1 ≤ 3) (hp : p < 4) (h : ftM F B p y ≠ B (3 * p + y)) : chM F B p (y + 1) = true := by
  rw [chM_iff]
  refine ⟨3 * p + y, by omega, by omega, ?_⟩
  rw [show (3 * p + y) / 3 = p by omega, show (3 * p + y) % 3 = y by omega]
  exact h
theorem chM_k {F B : Nat → Nat} {p y : Nat} (hy : y < F 1) (hY : F 1 ≤ 3) (h0 : chM F B p y = false) (h : ftM F B p y = B (3 * p + y)) : chM F B p (y + 1) = false := by
  rw [Bool.eq_false_iff, Ne, chM_iff] at h0 ⊢
  rintro ⟨i, h1, h2, h3⟩
  by_cases hi : i = 3 * p + y
  · subst hi
    rw [show (3 * p + y) / 3 = p by omega, show (3 * p + y) % 3 = y by omega] at h3
    exact h3 h
  · exact h0 ⟨i, h1, by omega, h3⟩
theorem chM_r {F B : Nat → Nat} {p : Nat} : chM F B p (F 1) = chM F B (p + 1) 0 := by
  rw [Bool.eq_iff_iff, chM_iff, chM_iff]
  constructor
  · rintro ⟨i, h1, h2, h3⟩
    exact ⟨i, h1, by omega, h3⟩
  · rintro ⟨i, h1, h2, h3⟩
    exact ⟨i, h1, by omega, h3⟩
def stM (F B : Nat → Nat) (p y : Nat) : Nat → Nat := fun i => if (i / 3 < p ∨ (i / 3 = p ∧ i % 3 < y)) ∧ i % 3 < F 1 then ftM F B (i / 3) (i % 3) else B i
theorem stM_0 (F B : Nat → Nat) : stM F B 0 0 = B := by funext i; unfold stM; rw [if_neg (by omega)]
theorem stM_r {F B : Nat → Nat} {p : Nat} : stM F B p (F 1) = stM F B (p + 1) 0 := by
  funext i
  unfold stM
  by_cases h2 : (i / 3 < p ∨ (i / 3 = p ∧ i % 3 < F 1)) ∧ i % 3 < F 1
  · rw [if_pos h2, if_pos (by omega)]
  · rw [if_neg h2, if_neg (by omega)]
theorem stM_s {F B Bt : Nat → Nat} {p y : Nat} (hy : y < F 1) (hY : F 1 ≤ 3) (hp : p < F 0) : updN (stM F B p y) (3 * p + y) (thM F B Bt (F 0) 0 (3 * p + y)) = stM F B p (y + 1) := by
  funext i
  unfold updN stM
  by_cases h : i = 3 * p + y
  · subst h
    rw [if_pos rfl, if_pos (by omega), show (3 * p + y) / 3 = p by omega, show (3 * p + y) % 3 = y by omega]
    unfold thM
    rw [if_pos (by omega), show (3 * p + y) / 3 = p by omega, show (3 * p + y) % 3 = y by omega]
  · rw [if_neg h]
    by_cases h2 : (i / 3 < p ∨ (i / 3 = p ∧ i % 3 < y)) ∧ i % 3 < F 1
    · rw [if_pos h2, if_pos (by omega)]
    · rw [if_neg h2, if_neg (by omega)]
theorem stM_lt {F B : Nat → Nat} {p y : Nat} (hru : mRu F) (hB : ∀ i, B i < 65536) (i : Nat) : stM F B p y i < 65536 := by
  unfold stM
  split
  · exact ftM_lt hru hB
  · exact hB i
theorem thM_lt {F B Bt : Nat → Nat} {p y : Nat} (hru : mRu F) (hB : ∀ i, B i < 65536) (hBt : ∀ i, Bt i < 65536) (i : Nat) : thM F B Bt p y i < 65536 := by
  unfold thM
  split
  · exact ftM_lt hru hB
  · exact hBt i

theorem iw_X10_yields_X10 : ∀ w ∈ wsX100, w ∈ wsX10_yields := fun _ h => List.mem_cons_of_mem _ (List.mem_append_right _ h)
theorem lk_X10_yields_22 : Cond.fieldLink RX10 22 (TX10 7).1 (TX10 7).2.1 (TX10 7).2.2.1 ∈ wsX10_yields := List.mem_of_getElem? (i := 2) rfl
theorem hd_X10_unions : yX10_unions.cls ≠ "java/lang/invoke/MethodHandle" ∧ yX10_unions.cls ≠ "java/lang/invoke/VarHandle" ∧ (parseMethodDescriptor yX10_unions.desc).map (fun d => d.parameters.length) = some 2 := by decide +kernel
theorem lk_X10_yields_7 : Cond.fieldLink RX10 7 (TX10 0).1 (TX10 0).2.1 (TX10 0).2.2.1 ∈ wsX10_yields := List.mem_of_getElem? (i := 1) rfl
set_option maxHeartbeats 4000000 in
set_option maxRecDepth 100000 in
theorem c_X10_yields (h F Q ft B Bt a1 a2 a3 a4 a5 : Nat → Nat) (fr : Nat → Int32) (W M : Nat → Int64) (km le sp ro : Nat) (r : Nat) (hFb : ∀ i, F i < 65536) (hr : r < 16) (hq : F (5 + 5 * r + 2) < 4) (hu : F (5 + 5 * r + 3) ≤ 3) (hl : F (5 + 5 * r + 4) ≤ 3) (ht : F 3 < 16) (hB : ∀ i, B i < 65536) : Ct l yX10_yields wsX10_yields (rmD (2)) D [(cI, .int), (cC, .char), (cJ, .long), (cG, .object "PushdownGameSolver$Game")] [.ref ((h 0)), .int (nI r)] [((h 0), .inr (6, [.ref ((h 1)), .ref ((h 2)), .ref ((h 3)), .int (nI km), .ref ((h 4)), .int (nI le), .int (nI sp), .ref ((h 5)), .ref ((h 6)), .int (nI ro), .ref ((h 7)), .ref ((h 8)), .ref ((h 9)), .ref ((h 10)), .ref ((h 11)), .ref ((h 12)), .ref ((h 13))])), ((h 1), .inl (cI, 99, .inl (sA F))), ((h 2), .inl (cI, 99, .inl fr)), ((h 3), .inl (cI, 594, .inl (kA Q))), ((h 4), .inl (cI, 200, .inl (fun zz => nI (ft zz)))), ((h 5), .inl (cI, 12, .inl (fun zz => nI (B zz)))), ((h 6), .inl (cI, 12, .inl (fun zz => nI (Bt zz)))), ((h 7), .inl (cJ, 16, .inr (.inl W))), ((h 8), .inl (cJ, 16, .inr (.inl M))), ((h 9), .inl (cI, 9, .inl (fun zz => nI (a1 zz)))), ((h 10), .inl (cI, 9, .inl (fun zz => nI (a2 zz)))), ((h 11), .inl (cI, 198, .inl (fun zz => nI (a3 zz)))), ((h 12), .inl (cI, 9, .inl (fun zz => nI (a4 zz)))), ((h 13), .inl (cI, 9, .inl (fA a5)))] (S := Unit) (fun _ => True) (fun _ => some (.int (nI (yM F B r)))) (fun _ => [((h 0), .inr (6, [.ref ((h 1)), .ref ((h 2)), .ref ((h 3)), .int (nI km), .ref ((h 4)), .int (nI le), .int (nI sp), .ref ((h 5)), .ref ((h 6)), .int (nI ro), .ref ((h 7)), .ref ((h 8)), .ref ((h 9)), .ref ((h 10)), .ref ((h 11)), .ref ((h 12)), .ref ((h 13))])), ((h 1), .inl (cI, 99, .inl (sA F))), ((h 2), .inl (cI, 99, .inl fr)), ((h 3), .inl (cI, 594, .inl (kA Q))), ((h 4), .inl (cI, 200, .inl (fun zz => nI (ft zz)))), ((h 5), .inl (cI, 12, .inl (fun zz => nI (B zz)))), ((h 6), .inl (cI, 12, .inl (fun zz => nI (Bt zz)))), ((h 7), .inl (cJ, 16, .inr (.inl W))), ((h 8), .inl (cJ, 16, .inr (.inl M))), ((h 9), .inl (cI, 9, .inl (fun zz => nI (a1 zz)))), ((h 10), .inl (cI, 9, .inl (fun zz => nI (a2 zz)))), ((h 11), .inl (cI, 198, .inl (fun zz => nI (a3 zz)))), ((h 12), .inl (cI, 9, .inl (fun zz => nI (a4 zz)))), ((h 13), .inl (cI, 9, .inl (fA a5)))]) := by
  refine Ct.of (lv := [(0, .ref ((h 0))), (1, .int (nI r))]) (by decide) rfl (Nat.le_of_ble_eq_true rfl) rfl ?_
  intro ε hL EE FF
  have hsq := sh4 _ hq
  have Lp_75 : ∀ (nf : Nat), ∀ (s : Nat), 16 - s < nf → (s ≤ 16) → (bt (F 3) (F (5 + 5 * r + 2)) = 0) → (¬ F (5 + 5 * r + 3) = 0) → (¬ F (5 + 5 * r + 4) = 0) → J l (rmD (2)) D ε [((h 0), .inr (6, [.ref ((h 1)), .ref ((h 2)), .ref ((h 3)), .int (nI km), .ref ((h 4)), .int (nI le), .int (nI sp), .ref ((h 5)), .ref ((h 6)), .int (nI ro), .ref ((h 7)), .ref ((h 8)), .ref ((h 9)), .ref ((h 10)), .ref ((h 11)), .ref ((h 12)), .ref ((h 13))])), ((h 1), .inl (cI, 99, .inl (sA F))), ((h 2), .inl (cI, 99, .inl fr)), ((h 3), .inl (cI, 594, .inl (kA Q))), ((h 4), .inl (cI, 200, .inl (fun zz => nI (ft zz)))), ((h 5), .inl (cI, 12, .inl (fun zz => nI (B zz)))), ((h 6), .inl (cI, 12, .inl (fun zz => nI (Bt zz)))), ((h 7), .inl (cJ, 16, .inr (.inl W))), ((h 8), .inl (cJ, 16, .inr (.inl M))), ((h 9), .inl (cI, 9, .inl (fun zz => nI (a1 zz)))), ((h 10), .inl (cI, 9, .inl (fun zz => nI (a2 zz)))), ((h 11), .inl (cI, 198, .inl (fun zz => nI (a3 zz)))), ((h 12), .inl (cI, 9, .inl (fun zz => nI (a4 zz)))), ((h 13), .inl (cI, 9, .inl (fA a5)))] 75 [(7, .int (nI s)), (6, .int (nI (yS B (B (3 * F (5 + 5 * r + 2) + (F (5 + 5 * r + 3) - 1))) (F (5 + 5 * r + 4) - 1) s))), (5, .int (nI (B (3 * F (5 + 5 * r + 2) + (F (5 + 5 * r + 3) - 1))))), (4, .int (nI (F (5 + 5 * r + 4)) - nI 1)), (3, .int (nI (F (5 + 5 * r + 3)) - nI 1)), (2, .int (nI (F (5 + 5 * r + 2)))), (0, .ref ((h 0))), (1, .int (nI r))] [] := by
    intro nf
    induction nf with
    | zero => intro s hm; exact absurd hm (Nat.not_lt_zero _)
    | succ nf ihp_75 =>
      intro s hm75 hs n17 n39 n63
      have Lp_102 : ∀ (nf : Nat), ∀ (v : Nat), 4 - v < nf → (v ≤ 4) → (s < 16) → J l (rmD (2)) D ε [((h 0), .inr (6, [.ref ((h 1)), .ref ((h 2)), .ref ((h 3)), .int (nI km), .ref ((h 4)), .int (nI le), .int (nI sp), .ref ((h 5)), .ref ((h 6)), .int (nI ro), .ref ((h 7)), .ref ((h 8)), .ref ((h 9)), .ref ((h 10)), .ref ((h 11)), .ref ((h 12)), .ref ((h 13))])), ((h 1), .inl (cI, 99, .inl (sA F))), ((h 2), .inl (cI, 99, .inl fr)), ((h 3), .inl (cI, 594, .inl (kA Q))), ((h 4), .inl (cI, 200, .inl (fun zz => nI (ft zz)))), ((h 5), .inl (cI, 12, .inl (fun zz => nI (B zz)))), ((h 6), .inl (cI, 12, .inl (fun zz => nI (Bt zz)))), ((h 7), .inl (cJ, 16, .inr (.inl W))), ((h 8), .inl (cJ, 16, .inr (.inl M))), ((h 9), .inl (cI, 9, .inl (fun zz => nI (a1 zz)))), ((h 10), .inl (cI, 9, .inl (fun zz => nI (a2 zz)))), ((h 11), .inl (cI, 198, .inl (fun zz => nI (a3 zz)))), ((h 12), .inl (cI, 9, .inl (fun zz => nI (a4 zz)))), ((h 13), .inl (cI, 9, .inl (fA a5)))] 102 [(9, .int (nI v)), (8, .int (nI (yV B (F (5 + 5 * r + 4) - 1) s (bt (B (3 * F (5 + 5 * r + 2) + (F (5 + 5 * r + 3) - 1))) s) v))), (7, .int (nI s)), (6, .int (nI (yS B (B (3 * F (5 + 5 * r + 2) + (F (5 + 5 * r + 3) - 1))) (F (5 + 5 * r + 4) - 1) s))), (5, .int (nI (B (3 * F (5 + 5 * r + 2) + (F (5 + 5 * r + 3) - 1))))), (4, .int (nI (F (5 + 5 * r + 4)) - nI 1)), (3, .int (nI (F (5 + 5 * r + 3)) - nI 1)), (2, .int (nI (F (5 + 5 * r + 2)))), (0, .ref ((h 0))), (1, .int (nI r))] [] := by
        intro nf
        induction nf with
        | zero => intro v hm; exact absurd hm (Nat.not_lt_zero _)
        | succ nf ihp_102 =>
          intro v hm102 hv hsl
          have hyv := yV_lt (B := B) (lo := F (5 + 5 * r + 4) - 1) (s := s) (a0 := bt (B (3 * F (5 + 5 * r + 2) + (F (5 + 5 * r + 3) - 1))) s) (by have := bt_lt (B (3 * F (5 + 5 * r + 2) + (F (5 + 5 * r + 3) - 1))) s; omega) v
          refine j_iload EE 0 dX10_yields_102 rfl ?_
          refine j_iconst (v := nI 4) EE dX10_yields_104 (by decide) ?_
          refine j_icmp_ge EE 153 dX10_yields_105 (by decide) (fun c105 => ?_) (fun c105 => ?_)
          · skip
            have n105 : 4 ≤ v := (nI_leI (a := 4) (b := v) (by omega) (by omega)).mp c105
            refine j_iload EE 3 dX10_yields_153 rfl ?_
            refine j_iload EE 1 dX10_yields_155 rfl ?_
            refine j_ior EE dX10_yields_157 ?_
            refine j_topE (nI_or (yS B (B (3 * F (5 + 5 * r + 2) + (F (5 + 5 * r + 3) - 1))) (F (5 + 5 * r + 4) - 1) s) (yV B (F (5 + 5 * r + 4) - 1) s (bt (B (3 * F (5 + 5 * r + 2) + (F (5 + 5 * r + 3) - 1))) s) v)) ?_
            refine j_istore EE [(6, _), (9, _), (8, _), (7, _), (5, _), (4, _), (3, _), (2, _), (0, _), (1, _)] dX10_yields_158 (Nat.lt_of_lt_of_eq (by decide) hL.symm) rfl ?_
            refine j_iinc (v := nI (s + 1)) EE 3 [(7, .int (nI (s + 1))), (6, _), (9, _), (8, _), (5, _), (4, _), (3, _), (2, _), (0, _), (1, _)] dX10_yields_160 rfl (nI_1 s) (Nat.lt_of_lt_of_eq (by decide) hL.symm) rfl ?_
            refine j_goto EE 75 dX10_yields_163 (by decide) ?_
            refine j_lv [0, 1, 4, 5, 6, 7, 8, 9] rfl ?_
            first | rw [show v = 4 by omega, show yS B (B (3 * F (5 + 5 * r + 2) + (F (5 + 5 * r + 3) - 1))) (F (5 + 5 * r + 4) - 1) s ||| yV B (F (5 + 5 * r + 4) - 1) s (bt (B (3 * F (5 + 5 * r + 2) + (F (5 + 5 * r + 3) - 1))) s) 4 = yS B (B (3 * F (5 + 5 * r + 2) + (F (5 + 5 * r + 3) - 1))) (F (5 + 5 * r + 4) - 1) (s + 1) from rfl] | rw [n110, show yS B (B (3 * F (5 + 5 * r + 2) + (F (5 + 5 * r + 3) - 1))) (F (5 + 5 * r + 4) - 1) s ||| 0 = yS B (B (3 * F (5 + 5 * r + 2) + (F (5 + 5 * r + 3) - 1))) (F (5 + 5 * r + 4) - 1) (s + 1) by show _ = yS B (B (3 * F (5 + 5 * r + 2) + (F (5 + 5 * r + 3) - 1))) (F (5 + 5 * r + 4) - 1) s ||| yV B (F (5 + 5 * r + 4) - 1) s (bt (B (3 * F (5 + 5 * r + 2) + (F (5 + 5 * r + 3) - 1))) s) 4; rw [(by have h8 := yV_z n110 (4 - v); rwa [show v + (4 - v) = 4 by omega] at h8 : yV B (F (5 + 5 * r + 4) - 1) s (bt (B (3 * F (5 + 5 * r + 2) + (F (5 + 5 * r + 3) - 1))) s) 4 = 0)]]
            exact ihp_75 (s + 1) (by omega) (by omega) n17 n39 n63
          · skip
            have n105 : ¬ 4 ≤ v := fun hq => c105 ((nI_leI (a := 4) (b := v) (by omega) (by omega)).mpr hq)
            refine j_iload EE 1 dX10_yields_108 rfl ?_
            refine j_if_eq EE 153 dX10_yields_110 (by decide) (fun c110 => ?_) (fun c110 => ?_)
            · skip
              have n110 : (yV B (F (5 + 5 * r + 4) - 1) s (bt (B (3 * F (5 + 5 * r + 2) + (F (5 + 5 * r + 3) - 1))) s) v) = 0 := (nI_eq (a := (yV B (F (5 + 5 * r + 4) - 1) s (bt (B (3 * F (5 + 5 * r + 2) + (F (5 + 5 * r + 3) - 1))) s) v)) (b := 0) (by omega) (by omega)).mp c110
              refine j_iload EE 3 dX10_yields_153 rfl ?_
              refine j_iload EE 1 dX10_yields_155 rfl ?_
              refine j_ior EE dX10_yields_157 ?_
              refine j_topE (nI_or (yS B (B (3 * F (5 + 5 * r + 2) + (F (5 + 5 * r + 3) - 1))) (F (5 + 5 * r + 4) - 1) s) (yV B (F (5 + 5 * r + 4) - 1) s (bt (B (3 * F (5 + 5 * r + 2) + (F (5 + 5 * r + 3) - 1))) s) v)) ?_
              refine j_istore EE [(6, _), (9, _), (8, _), (7, _), (5, _), (4, _), (3, _), (2, _), (0, _), (1, _)] dX10_yields_158 (Nat.lt_of_lt_of_eq (by decide) hL.symm) rfl ?_
              refine j_iinc (v := nI (s + 1)) EE 3 [(7, .int (nI (s + 1))), (6, _), (9, _), (8, _), (5, _), (4, _), (3, _), (2, _), (0, _), (1, _)] dX10_yields_160 rfl (nI_1 s) (Nat.lt_of_lt_of_eq (by decide) hL.symm) rfl ?_
              refine j_goto EE 75 dX10_yields_163 (by decide) ?_
              refine j_lv [0, 1, 4, 5, 6, 7, 8, 9] rfl ?_
              first | rw [show v = 4 by omega, show yS B (B (3 * F (5 + 5 * r + 2) + (F (5 + 5 * r + 3) - 1))) (F (5 + 5 * r + 4) - 1) s ||| yV B (F (5 + 5 * r + 4) - 1) s (bt (B (3 * F (5 + 5 * r + 2) + (F (5 + 5 * r + 3) - 1))) s) 4 = yS B (B (3 * F (5 + 5 * r + 2) + (F (5 + 5 * r + 3) - 1))) (F (5 + 5 * r + 4) - 1) (s + 1) from rfl] | rw [n110, show yS B (B (3 * F (5 + 5 * r + 2) + (F (5 + 5 * r + 3) - 1))) (F (5 + 5 * r + 4) - 1) s ||| 0 = yS B (B (3 * F (5 + 5 * r + 2) + (F (5 + 5 * r + 3) - 1))) (F (5 + 5 * r + 4) - 1) (s + 1) by show _ = yS B (B (3 * F (5 + 5 * r + 2) + (F (5 + 5 * r + 3) - 1))) (F (5 + 5 * r + 4) - 1) s ||| yV B (F (5 + 5 * r + 4) - 1) s (bt (B (3 * F (5 + 5 * r + 2) + (F (5 + 5 * r + 3) - 1))) s) 4; rw [(by have h8 := yV_z n110 (4 - v); rwa [show v + (4 - v) = 4 by omega] at h8 : yV B (F (5 + 5 * r + 4) - 1) s (bt (B (3 * F (5 + 5 * r + 2) + (F (5 + 5 * r + 3) - 1))) s) 4 = 0)]]
              exact ihp_75 (s + 1) (by omega) (by omega) n17 n39 n63
            · skip
              have n110 : (yV B (F (5 + 5 * r + 4) - 1) s (bt (B (3 * F (5 + 5 * r + 2) + (F (5 + 5 * r + 3) - 1))) s) v) ≠ 0 := fun hq => c110 ((nI_eq (a := (yV B (F (5 + 5 * r + 4) - 1) s (bt (B (3 * F (5 + 5 * r + 2) + (F (5 + 5 * r + 3) - 1))) s) v)) (b := 0) (by omega) (by omega)).mpr hq)
              refine j_iload EE 2 dX10_yields_113 rfl ?_
              refine j_iload EE 0 dX10_yields_115 rfl ?_
              refine j_S2 (n9 := 14) EE (c_X10_has s v (by omega) (by omega)) gX10_yields_X10_has hd_X10_has rfl ⟨rfl, rfl⟩ ⟨by decide, by decide⟩ rfl [] rfl [0, 1, 2, 3, 4, 5, 6, 7, 8, 9, 10, 11, 12, 13] [((h 0), .inr (6, [.ref ((h 1)), .ref ((h 2)), .ref ((h 3)), .int (nI km), .ref ((h 4)), .int (nI le), .int (nI sp), .ref ((h 5)), .ref ((h 6)), .int (nI ro), .ref ((h 7)), .ref ((h 8)), .ref ((h 9)), .ref ((h 10)), .ref ((h 11)), .ref ((h 12)), .ref ((h 13))])), ((h 1), .inl (cI, 99, .inl (sA F))), ((h 2), .inl (cI, 99, .inl fr)), ((h 3), .inl (cI, 594, .inl (kA Q))), ((h 4), .inl (cI, 200, .inl (fun zz => nI (ft zz)))), ((h 5), .inl (cI, 12, .inl (fun zz => nI (B zz)))), ((h 6), .inl (cI, 12, .inl (fun zz => nI (Bt zz)))), ((h 7), .inl (cJ, 16, .inr (.inl W))), ((h 8), .inl (cJ, 16, .inr (.inl M))), ((h 9), .inl (cI, 9, .inl (fun zz => nI (a1 zz)))), ((h 10), .inl (cI, 9, .inl (fun zz => nI (a2 zz)))), ((h 11), .inl (cI, 198, .inl (fun zz => nI (a3 zz)))), ((h 12), .inl (cI, 9, .inl (fun zz => nI (a4 zz)))), ((h 13), .inl (cI, 9, .inl (fA a5)))] (fun _ => rfl) [((h 0), .inr (6, [.ref ((h 1)), .ref ((h 2)), .ref ((h 3)), .int (nI km), .ref ((h 4)), .int (nI le), .int (nI sp), .ref ((h 5)), .ref ((h 6)), .int (nI ro), .ref ((h 7)), .ref ((h 8)), .ref ((h 9)), .ref ((h 10)), .ref ((h 11)), .ref ((h 12)), .ref ((h 13))])), ((h 1), .inl (cI, 99, .inl (sA F))), ((h 2), .inl (cI, 99, .inl fr)), ((h 3), .inl (cI, 594, .inl (kA Q))), ((h 4), .inl (cI, 200, .inl (fun zz => nI (ft zz)))), ((h 5), .inl (cI, 12, .inl (fun zz => nI (B zz)))), ((h 6), .inl (cI, 12, .inl (fun zz => nI (Bt zz)))), ((h 7), .inl (cJ, 16, .inr (.inl W))), ((h 8), .inl (cJ, 16, .inr (.inl M))), ((h 9), .inl (cI, 9, .inl (fun zz => nI (a1 zz)))), ((h 10), .inl (cI, 9, .inl (fun zz => nI (a2 zz)))), ((h 11), .inl (cI, 198, .inl (fun zz => nI (a3 zz)))), ((h 12), .inl (cI, 9, .inl (fun zz => nI (a4 zz)))), ((h 13), .inl (cI, 9, .inl (fA a5)))] [(h 0), (h 1), (h 2), (h 3), (h 4), (h 5), (h 6), (h 7), (h 8), (h 9), (h 10), (h 11), (h 12), (h 13)] rfl rfl rfl rfl rfl (by decide) (by decide) rfl (Nat.le_of_ble_eq_true rfl) dX10_yields_117 (fun u_117 h_117 => ?_) rfl
              show J l _ D ε _ _ _ (.int (nI (bt s v)) :: _)
              refine j_if_eq EE 143 dX10_yields_120 (by decide) (fun c120 => ?_) (fun c120 => ?_)
              · skip
                have n120 : (bt s v) = 0 := (nI_eq (a := (bt s v)) (b := 0) (by have := bt_lt s v; omega) (by have := bt_lt s v; omega)).mp c120
                refine j_iload EE 1 dX10_yields_143 rfl ?_
                refine j_istore EE [(8, _), (9, _), (7, _), (6, _), (5, _), (4, _), (3, _), (2, _), (0, _), (1, _)] dX10_yields_145 (Nat.lt_of_lt_of_eq (by decide) hL.symm) rfl ?_
                refine j_iinc (v := nI (v + 1)) EE 1 [(9, .int (nI (v + 1))), (8, _), (7, _), (6, _), (5, _), (4, _), (3, _), (2, _), (0, _), (1, _)] dX10_yields_147 rfl (nI_1 v) (Nat.lt_of_lt_of_eq (by decide) hL.symm) rfl ?_
                refine j_goto EE 102 dX10_yields_150 (by decide) ?_
                first | rw [show unO (yV B (F (5 + 5 * r + 4) - 1) s (bt (B (3 * F (5 + 5 * r + 2) + (F (5 + 5 * r + 3) - 1))) s) v) (B (3 * v + (F (5 + 5 * r + 4) - 1))) 16 = yV B (F (5 + 5 * r + 4) - 1) s (bt (B (3 * F (5 + 5 * r + 2) + (F (5 + 5 * r + 3) - 1))) s) (v + 1) by conv => rhs; unfold yV; rw [if_neg n110, if_pos (bz_1 n120)]] | rw [show yV B (F (5 + 5 * r + 4) - 1) s (bt (B (3 * F (5 + 5 * r + 2) + (F (5 + 5 * r + 3) - 1))) s) v = yV B (F (5 + 5 * r + 4) - 1) s (bt (B (3 * F (5 + 5 * r + 2) + (F (5 + 5 * r + 3) - 1))) s) (v + 1) by conv => rhs; unfold yV; rw [if_neg n110, if_neg (by omega)]]
                exact ihp_102 (v + 1) (by omega) (by omega) hsl
              · skip
                have n120 : (bt s v) ≠ 0 := fun hq => c120 ((nI_eq (a := (bt s v)) (b := 0) (by have := bt_lt s v; omega) (by have := bt_lt s v; omega)).mpr hq)
                refine j_iload EE 1 dX10_yields_123 rfl ?_
                refine j_aload_n EE 8 dX10_yields_125 rfl rfl ?_
                refine j_get (T := TX10) EE iw_X10_yields_X10 0 rfl rfl 7 (by decide) lk_X10_yields_22 rfl dX10_yields_126 ?_
                refine j_iconst (v := nI 3) EE dX10_yields_129 (by decide) ?_
                refine j_iload EE 0 dX10_yields_130 rfl ?_
                refine j_imul EE dX10_yields_132 ?_
                refine j_topE (pk_mul 3 v) ?_
                refine j_iload EE 5 dX10_yields_133 rfl ?_
                refine j_topE (y := nI (F (5 + 5 * r + 4) - 1)) (pk_sub (by omega)) ?_
                refine j_iadd EE dX10_yields_135 ?_
                refine j_topE (nI_add (3 * v) (F (5 + 5 * r + 4) - 1)) ?_
                refine j_iald EE 5 0 rfl rfl (vp_in_nI (n := (3 * v) + (F (5 + 5 * r + 4) - 1)) (by omega) (by decide)) dX10_yields_136 ?_
                refine j_topE (congrArg (fun zz => nI (B zz)) (nI_clamp (n := (3 * v) + (F (5 + 5 * r + 4) - 1)) (by omega))) ?_
                refine j_topE (y := nI (B ((3 * v) + (F (5 + 5 * r + 4) - 1)))) rfl ?_
                have hBv := hB (3 * v + (F (5 + 5 * r + 4) - 1))
                refine j_S2 (n9 := 14) EE (c_X10_unions (yV B (F (5 + 5 * r + 4) - 1) s (bt (B (3 * F (5 + 5 * r + 2) + (F (5 + 5 * r + 3) - 1))) s) v) (B ((3 * v) + (F (5 + 5 * r + 4) - 1))) (by have := hB ((3 * v) + (F (5 + 5 * r + 4) - 1)); omega) (by have := hB ((3 * v) + (F (5 + 5 * r + 4) - 1)); omega)) gX10_yields_X10_unions hd_X10_unions rfl ⟨rfl, rfl⟩ ⟨by decide, by decide⟩ rfl [] rfl [0, 1, 2, 3, 4, 5, 6, 7, 8, 9, 10, 11, 12, 13] [((h 0), .inr (6, [.ref ((h 1)), .ref ((h 2)), .ref ((h 3)), .int (nI km), .ref ((h 4)), .int (nI le), .int (nI sp), .ref ((h 5)), .ref ((h 6)), .int (nI ro), .ref ((h 7)), .ref ((h 8)), .ref ((h 9)), .ref ((h 10)), .ref ((h 11)), .ref ((h 12)), .ref ((h 13))])), ((h 1), .inl (cI, 99, .inl (sA F))), ((h 2), .inl (cI, 99, .inl fr)), ((h 3), .inl (cI, 594, .inl (kA Q))), ((h 4), .inl (cI, 200, .inl (fun zz => nI (ft zz)))), ((h 5), .inl (cI, 12, .inl (fun zz => nI (B zz)))), ((h 6), .inl (cI, 12, .inl (fun zz => nI (Bt zz)))), ((h 7), .inl (cJ, 16, .inr (.inl W))), ((h 8), .inl (cJ, 16, .inr (.inl M))), ((h 9), .inl (cI, 9, .inl (fun zz => nI (a1 zz)))), ((h 10), .inl (cI, 9, .inl (fun zz => nI (a2 zz)))), ((h 11), .inl (cI, 198, .inl (fun zz => nI (a3 zz)))), ((h 12), .inl (cI, 9, .inl (fun zz => nI (a4 zz)))), ((h 13), .inl (cI, 9, .inl (fA a5)))] (fun _ => rfl) [((h 0), .inr (6, [.ref ((h 1)), .ref ((h 2)), .ref ((h 3)), .int (nI km), .ref ((h 4)), .int (nI le), .int (nI sp), .ref ((h 5)), .ref ((h 6)), .int (nI ro), .ref ((h 7)), .ref ((h 8)), .ref ((h 9)), .ref ((h 10)), .ref ((h 11)), .ref ((h 12)), .ref ((h 13))])), ((h 1), .inl (cI, 99, .inl (sA F))), ((h 2), .inl (cI, 99, .inl fr)), ((h 3), .inl (cI, 594, .inl (kA Q))), ((h 4), .inl (cI, 200, .inl (fun zz => nI (ft zz)))), ((h 5), .inl (cI, 12, .inl (fun zz => nI (B zz)))), ((h 6), .inl (cI, 12, .inl (fun zz => nI (Bt zz)))), ((h 7), .inl (cJ, 16, .inr (.inl W))), ((h 8), .inl (cJ, 16, .inr (.inl M))), ((h 9), .inl (cI, 9, .inl (fun zz => nI (a1 zz)))), ((h 10), .inl (cI, 9, .inl (fun zz => nI (a2 zz)))), ((h 11), .inl (cI, 198, .inl (fun zz => nI (a3 zz)))), ((h 12), .inl (cI, 9, .inl (fun zz => nI (a4 zz)))), ((h 13), .inl (cI, 9, .inl (fA a5)))] [(h 0), (h 1), (h 2), (h 3), (h 4), (h 5), (h 6), (h 7), (h 8), (h 9), (h 10), (h 11), (h 12), (h 13)] rfl rfl rfl rfl rfl (by decide) (by decide) rfl (Nat.le_of_ble_eq_true rfl) dX10_yields_137 (fun u_137 h_137 => ?_) rfl
                show J l _ D ε _ _ _ (.int (nI (unO (yV B (F (5 + 5 * r + 4) - 1) s (bt (B (3 * F (5 + 5 * r + 2) + (F (5 + 5 * r + 3) - 1))) s) v) (B ((3 * v) + (F (5 + 5 * r + 4) - 1))) 16)) :: _)
                refine j_goto EE 145 dX10_yields_140 (by decide) ?_
                refine j_istore EE [(8, _), (9, _), (7, _), (6, _), (5, _), (4, _), (3, _), (2, _), (0, _), (1, _)] dX10_yields_145 (Nat.lt_of_lt_of_eq (by decide) hL.symm) rfl ?_
                refine j_iinc (v := nI (v + 1)) EE 1 [(9, .int (nI (v + 1))), (8, _), (7, _), (6, _), (5, _), (4, _), (3, _), (2, _), (0, _), (1, _)] dX10_yields_147 rfl (nI_1 v) (Nat.lt_of_lt_of_eq (by decide) hL.symm) rfl ?_
                refine j_goto EE 102 dX10_yields_150 (by decide) ?_
                first | rw [show unO (yV B (F (5 + 5 * r + 4) - 1) s (bt (B (3 * F (5 + 5 * r + 2) + (F (5 + 5 * r + 3) - 1))) s) v) (B (3 * v + (F (5 + 5 * r + 4) - 1))) 16 = yV B (F (5 + 5 * r + 4) - 1) s (bt (B (3 * F (5 + 5 * r + 2) + (F (5 + 5 * r + 3) - 1))) s) (v + 1) by conv => rhs; unfold yV; rw [if_neg n110, if_pos (bz_1 n120)]] | rw [show yV B (F (5 + 5 * r + 4) - 1) s (bt (B (3 * F (5 + 5 * r + 2) + (F (5 + 5 * r + 3) - 1))) s) v = yV B (F (5 + 5 * r + 4) - 1) s (bt (B (3 * F (5 + 5 * r + 2) + (F (5 + 5 * r + 3) - 1))) s) (v + 1) by conv => rhs; unfold yV; rw [if_neg n110, if_neg (by omega)]]
                exact ihp_102 (v + 1) (by omega) (by omega) hsl
      refine j_iload EE 0 dX10_yields_75 rfl ?_
      refine j_bipush (v := nI 16) EE dX10_yields_77 (by decide) ?_
      refine j_icmp_ge EE 166 dX10_yields_79 (by decide) (fun c79 => ?_) (fun c79 => ?_)
      · skip
        have n79 : 16 ≤ s := (nI_leI (a := 16) (b := s) (by omega) (by omega)).mp c79
        refine j_iload EE 1 dX10_yields_166 rfl ?_
        exact j_iret EE FF dX10_yields_168 () trivial (by unfold yM; rw [if_neg (by omega), if_neg n39, if_neg n63, show s = 16 by omega]) rfl
      · skip
        have n79 : ¬ 16 ≤ s := fun hq => c79 ((nI_leI (a := 16) (b := s) (by omega) (by omega)).mpr hq)
        refine j_iload EE 2 dX10_yields_82 rfl ?_
        refine j_iload EE 0 dX10_yields_84 rfl ?_
        refine j_S2 (n9 := 14) EE (c_X10_has (B (3 * F (5 + 5 * r + 2) + (F (5 + 5 * r + 3) - 1))) s (by have := hB (3 * F (5 + 5 * r + 2) + (F (5 + 5 * r + 3) - 1)); omega) (by have := hB (3 * F (5 + 5 * r + 2) + (F (5 + 5 * r + 3) - 1)); omega)) gX10_yields_X10_has hd_X10_has rfl ⟨rfl, rfl⟩ ⟨by decide, by decide⟩ rfl [] rfl [0, 1, 2, 3, 4, 5, 6, 7, 8, 9, 10, 11, 12, 13] [((h 0), .inr (6, [.ref ((h 1)), .ref ((h 2)), .ref ((h 3)), .int (nI km), .ref ((h 4)), .int (nI le), .int (nI sp), .ref ((h 5)), .ref ((h 6)), .int (nI ro), .ref ((h 7)), .ref ((h 8)), .ref ((h 9)), .ref ((h 10)), .ref ((h 11)), .ref ((h 12)), .ref ((h 13))])), ((h 1), .inl (cI, 99, .inl (sA F))), ((h 2), .inl (cI, 99, .inl fr)), ((h 3), .inl (cI, 594, .inl (kA Q))), ((h 4), .inl (cI, 200, .inl (fun zz => nI (ft zz)))), ((h 5), .inl (cI, 12, .inl (fun zz => nI (B zz)))), ((h 6), .inl (cI, 12, .inl (fun zz => nI (Bt zz)))), ((h 7), .inl (cJ, 16, .inr (.inl W))), ((h 8), .inl (cJ, 16, .inr (.inl M))), ((h 9), .inl (cI, 9, .inl (fun zz => nI (a1 zz)))), ((h 10), .inl (cI, 9, .inl (fun zz => nI (a2 zz)))), ((h 11), .inl (cI, 198, .inl (fun zz => nI (a3 zz)))), ((h 12), .inl (cI, 9, .inl (fun zz => nI (a4 zz)))), ((h 13), .inl (cI, 9, .inl (fA a5)))] (fun _ => rfl) [((h 0), .inr (6, [.ref ((h 1)), .ref ((h 2)), .ref ((h 3)), .int (nI km), .ref ((h 4)), .int (nI le), .int (nI sp), .ref ((h 5)), .ref ((h 6)), .int (nI ro), .ref ((h 7)), .ref ((h 8)), .ref ((h 9)), .ref ((h 10)), .ref ((h 11)), .ref ((h 12)), .ref ((h 13))])), ((h 1), .inl (cI, 99, .inl (sA F))), ((h 2), .inl (cI, 99, .inl fr)), ((h 3), .inl (cI, 594, .inl (kA Q))), ((h 4), .inl (cI, 200, .inl (fun zz => nI (ft zz)))), ((h 5), .inl (cI, 12, .inl (fun zz => nI (B zz)))), ((h 6), .inl (cI, 12, .inl (fun zz => nI (Bt zz)))), ((h 7), .inl (cJ, 16, .inr (.inl W))), ((h 8), .inl (cJ, 16, .inr (.inl M))), ((h 9), .inl (cI, 9, .inl (fun zz => nI (a1 zz)))), ((h 10), .inl (cI, 9, .inl (fun zz => nI (a2 zz)))), ((h 11), .inl (cI, 198, .inl (fun zz => nI (a3 zz)))), ((h 12), .inl (cI, 9, .inl (fun zz => nI (a4 zz)))), ((h 13), .inl (cI, 9, .inl (fA a5)))] [(h 0), (h 1), (h 2), (h 3), (h 4), (h 5), (h 6), (h 7), (h 8), (h 9), (h 10), (h 11), (h 12), (h 13)] rfl rfl rfl rfl rfl (by decide) (by decide) rfl (Nat.le_of_ble_eq_true rfl) dX10_yields_86 (fun u_86 h_86 => ?_) rfl
        show J l _ D ε _ _ _ (.int (nI (bt (B (3 * F (5 + 5 * r + 2) + (F (5 + 5 * r + 3) - 1))) s)) :: _)
        refine j_if_eq EE 96 dX10_yields_89 (by decide) (fun c89 => ?_) (fun c89 => ?_)
        · skip
          have n89 : (bt (B (3 * F (5 + 5 * r + 2) + (F (5 + 5 * r + 3) - 1))) s) = 0 := (nI_eq (a := (bt (B (3 * F (5 + 5 * r + 2) + (F (5 + 5 * r + 3) - 1))) s)) (b := 0) (by have := bt_lt (B (3 * F (5 + 5 * r + 2) + (F (5 + 5 * r + 3) - 1))) s; omega) (by have := bt_lt (B (3 * F (5 + 5 * r + 2) + (F (5 + 5 * r + 3) - 1))) s; omega)).mp c89
          refine j_iconst (v := nI 0) EE dX10_yields_96 (by decide) ?_
          refine j_topE (y := nI (bt (B (3 * F (5 + 5 * r + 2) + (F (5 + 5 * r + 3) - 1))) s)) (by rw [n89]) ?_
          refine j_istore EE [(8, _), (7, _), (6, _), (5, _), (4, _), (3, _), (2, _), (0, _), (1, _)] dX10_yields_97 (Nat.lt_of_lt_of_eq (by decide) hL.symm) rfl ?_
          refine j_iconst (v := nI 0) EE dX10_yields_99 (by decide) ?_
          refine j_istore EE [(9, _), (8, _), (7, _), (6, _), (5, _), (4, _), (3, _), (2, _), (0, _), (1, _)] dX10_yields_100 (Nat.lt_of_lt_of_eq (by decide) hL.symm) rfl ?_
          exact Lp_102 _ 0 (Nat.lt_succ_self _) (by omega) (by omega)
        · skip
          have n89 : (bt (B (3 * F (5 + 5 * r + 2) + (F (5 + 5 * r + 3) - 1))) s) ≠ 0 := fun hq => c89 ((nI_eq (a := (bt (B (3 * F (5 + 5 * r + 2) + (F (5 + 5 * r + 3) - 1))) s)) (b := 0) (by have := bt_lt (B (3 * F (5 + 5 * r + 2) + (F (5 + 5 * r + 3) - 1))) s; omega) (by have := bt_lt (B (3 * F (5 + 5 * r + 2) + (F (5 + 5 * r + 3) - 1))) s; omega)).mpr hq)
          refine j_iconst (v := nI 1) EE dX10_yields_92 (by decide) ?_
          refine j_goto EE 97 dX10_yields_93 (by decide) ?_
          refine j_topE (y := nI (bt (B (3 * F (5 + 5 * r + 2) + (F (5 + 5 * r + 3) - 1))) s)) (by rw [bz_1 n89]) ?_
          refine j_istore EE [(8, _), (7, _), (6, _), (5, _), (4, _), (3, _), (2, _), (0, _), (1, _)] dX10_yields_97 (Nat.lt_of_lt_of_eq (by decide) hL.symm) rfl ?_
          refine j_iconst (v := nI 0) EE dX10_yields_99 (by decide) ?_
          refine j_istore EE [(9, _), (8, _), (7, _), (6, _), (5, _), (4, _), (3, _), (2, _), (0, _), (1, _)] dX10_yields_100 (Nat.lt_of_lt_of_eq (by decide) hL.symm) rfl ?_
          exact Lp_102 _ 0 (Nat.lt_succ_self _) (by omega) (by omega)
  refine j_aload_n EE 0 dX10_yields_0 rfl rfl ?_
  refine j_iload_n EE 1 dX10_yields_1 rfl rfl ?_
  refine j_iconst (v := nI 2) EE dX10_yields_2 (by decide) ?_
  refine j_V2 (n9 := 14) EE (c_X10_ofRule h F Q ft B Bt a1 a2 a3 a4 a5 fr W M km le sp ro r 2 (by omega) (by omega)) gX10_yields_X10_ofRule ⟨rfl, hd_X10_ofRule⟩ rfl ⟨rfl, rfl⟩ ⟨by decide, by decide⟩ rfl [0, 1, 2, 3, 4, 5, 6, 7, 8, 9, 10, 11, 12, 13] rfl [] [((h 0), .inr (6, [.ref ((h 1)), .ref ((h 2)), .ref ((h 3)), .int (nI km), .ref ((h 4)), .int (nI le), .int (nI sp), .ref ((h 5)), .ref ((h 6)), .int (nI ro), .ref ((h 7)), .ref ((h 8)), .ref ((h 9)), .ref ((h 10)), .ref ((h 11)), .ref ((h 12)), .ref ((h 13))])), ((h 1), .inl (cI, 99, .inl (sA F))), ((h 2), .inl (cI, 99, .inl fr)), ((h 3), .inl (cI, 594, .inl (kA Q))), ((h 4), .inl (cI, 200, .inl (fun zz => nI (ft zz)))), ((h 5), .inl (cI, 12, .inl (fun zz => nI (B zz)))), ((h 6), .inl (cI, 12, .inl (fun zz => nI (Bt zz)))), ((h 7), .inl (cJ, 16, .inr (.inl W))), ((h 8), .inl (cJ, 16, .inr (.inl M))), ((h 9), .inl (cI, 9, .inl (fun zz => nI (a1 zz)))), ((h 10), .inl (cI, 9, .inl (fun zz => nI (a2 zz)))), ((h 11), .inl (cI, 198, .inl (fun zz => nI (a3 zz)))), ((h 12), .inl (cI, 9, .inl (fun zz => nI (a4 zz)))), ((h 13), .inl (cI, 9, .inl (fA a5)))] (fun _ => rfl) [] [(h 0), (h 1), (h 2), (h 3), (h 4), (h 5), (h 6), (h 7), (h 8), (h 9), (h 10), (h 11), (h 12), (h 13)] rfl rfl rfl rfl rfl (by decide) (by decide) 0 rfl rfl rfl (Nat.le_of_ble_eq_true rfl) dX10_yields_3 (fun u_3 h_3 => ?_) rfl
  show J l _ D ε _ _ _ (.int (nI (F (5 + 5 * r + 2))) :: _)
  refine j_istore_n EE [(2, _), (0, _), (1, _)] dX10_yields_6 rfl (Nat.lt_of_lt_of_eq (by decide) hL.symm) rfl ?_
  refine j_aload_n EE 1 dX10_yields_7 rfl rfl ?_
  refine j_get (T := TX10) EE iw_X10_yields_X10 0 rfl rfl 0 (by decide) lk_X10_yields_7 rfl dX10_yields_8 ?_
  refine j_iconst (v := nI 3) EE dX10_yields_11 (by decide) ?_
  refine j_iald EE 1 0 rfl rfl (vp_in_nI (n := 3) (by omega) (by decide)) dX10_yields_12 ?_
  refine j_topE (congrArg (sA F) (nI_clamp (n := 3) (by omega))) ?_
  refine j_topE (y := nI (F 3)) (sA_n (by omega)) ?_
  refine j_iload_n EE 0 dX10_yields_13 rfl rfl ?_
  refine j_S2 (n9 := 14) EE (c_X10_has (F 3) (F (5 + 5 * r + 2)) (by have := hFb 3; have := hFb (5 + 5 * r + 2); omega) (by have := hFb 3; have := hFb (5 + 5 * r + 2); omega)) gX10_yields_X10_has hd_X10_has rfl ⟨rfl, rfl⟩ ⟨by decide, by decide⟩ rfl [] rfl [0, 1, 2, 3, 4, 5, 6, 7, 8, 9, 10, 11, 12, 13] [((h 0), .inr (6, [.ref ((h 1)), .ref ((h 2)), .ref ((h 3)), .int (nI km), .ref ((h 4)), .int (nI le), .int (nI sp), .ref ((h 5)), .ref ((h 6)), .int (nI ro), .ref ((h 7)), .ref ((h 8)), .ref ((h 9)), .ref ((h 10)), .ref ((h 11)), .ref ((h 12)), .ref ((h 13))])), ((h 1), .inl (cI, 99, .inl (sA F))), ((h 2), .inl (cI, 99, .inl fr)), ((h 3), .inl (cI, 594, .inl (kA Q))), ((h 4), .inl (cI, 200, .inl (fun zz => nI (ft zz)))), ((h 5), .inl (cI, 12, .inl (fun zz => nI (B zz)))), ((h 6), .inl (cI, 12, .inl (fun zz => nI (Bt zz)))), ((h 7), .inl (cJ, 16, .inr (.inl W))), ((h 8), .inl (cJ, 16, .inr (.inl M))), ((h 9), .inl (cI, 9, .inl (fun zz => nI (a1 zz)))), ((h 10), .inl (cI, 9, .inl (fun zz => nI (a2 zz)))), ((h 11), .inl (cI, 198, .inl (fun zz => nI (a3 zz)))), ((h 12), .inl (cI, 9, .inl (fun zz => nI (a4 zz)))), ((h 13), .inl (cI, 9, .inl (fA a5)))] (fun _ => rfl) [((h 0), .inr (6, [.ref ((h 1)), .ref ((h 2)), .ref ((h 3)), .int (nI km), .ref ((h 4)), .int (nI le), .int (nI sp), .ref ((h 5)), .ref ((h 6)), .int (nI ro), .ref ((h 7)), .ref ((h 8)), .ref ((h 9)), .ref ((h 10)), .ref ((h 11)), .ref ((h 12)), .ref ((h 13))])), ((h 1), .inl (cI, 99, .inl (sA F))), ((h 2), .inl (cI, 99, .inl fr)), ((h 3), .inl (cI, 594, .inl (kA Q))), ((h 4), .inl (cI, 200, .inl (fun zz => nI (ft zz)))), ((h 5), .inl (cI, 12, .inl (fun zz => nI (B zz)))), ((h 6), .inl (cI, 12, .inl (fun zz => nI (Bt zz)))), ((h 7), .inl (cJ, 16, .inr (.inl W))), ((h 8), .inl (cJ, 16, .inr (.inl M))), ((h 9), .inl (cI, 9, .inl (fun zz => nI (a1 zz)))), ((h 10), .inl (cI, 9, .inl (fun zz => nI (a2 zz)))), ((h 11), .inl (cI, 198, .inl (fun zz => nI (a3 zz)))), ((h 12), .inl (cI, 9, .inl (fun zz => nI (a4 zz)))), ((h 13), .inl (cI, 9, .inl (fA a5)))] [(h 0), (h 1), (h 2), (h 3), (h 4), (h 5), (h 6), (h 7), (h 8), (h 9), (h 10), (h 11), (h 12), (h 13)] rfl rfl rfl rfl rfl (by decide) (by decide) rfl (Nat.le_of_ble_eq_true rfl) dX10_yields_14 (fun u_14 h_14 => ?_) rfl
  show J l _ D ε _ _ _ (.int (nI (bt (F 3) (F (5 + 5 * r + 2)))) :: _)
  refine j_if_eq EE 22 dX10_yields_17 (by decide) (fun c17 => ?_) (fun c17 => ?_)
  · skip
    have n17 : (bt (F 3) (F (5 + 5 * r + 2))) = 0 := (nI_eq (a := (bt (F 3) (F (5 + 5 * r + 2)))) (b := 0) (by have := bt_lt (F 3) (F (5 + 5 * r + 2)); omega) (by have := bt_lt (F 3) (F (5 + 5 * r + 2)); omega)).mp c17
    refine j_aload_n EE 1 dX10_yields_22 rfl rfl ?_
    refine j_iload_n EE 2 dX10_yields_23 rfl rfl ?_
    refine j_iconst (v := nI 3) EE dX10_yields_24 (by decide) ?_
    refine j_V2 (n9 := 14) EE (c_X10_ofRuleW h F Q ft B Bt a1 a2 a3 a4 a5 fr W M km le sp ro r 3 (by omega) (by omega) (by omega)) gX10_yields_X10_ofRule ⟨rfl, hd_X10_ofRule⟩ rfl ⟨rfl, rfl⟩ ⟨by decide, by decide⟩ rfl [0, 1, 2, 3, 4, 5, 6, 7, 8, 9, 10, 11, 12, 13] rfl [] [((h 0), .inr (6, [.ref ((h 1)), .ref ((h 2)), .ref ((h 3)), .int (nI km), .ref ((h 4)), .int (nI le), .int (nI sp), .ref ((h 5)), .ref ((h 6)), .int (nI ro), .ref ((h 7)), .ref ((h 8)), .ref ((h 9)), .ref ((h 10)), .ref ((h 11)), .ref ((h 12)), .ref ((h 13))])), ((h 1), .inl (cI, 99, .inl (sA F))), ((h 2), .inl (cI, 99, .inl fr)), ((h 3), .inl (cI, 594, .inl (kA Q))), ((h 4), .inl (cI, 200, .inl (fun zz => nI (ft zz)))), ((h 5), .inl (cI, 12, .inl (fun zz => nI (B zz)))), ((h 6), .inl (cI, 12, .inl (fun zz => nI (Bt zz)))), ((h 7), .inl (cJ, 16, .inr (.inl W))), ((h 8), .inl (cJ, 16, .inr (.inl M))), ((h 9), .inl (cI, 9, .inl (fun zz => nI (a1 zz)))), ((h 10), .inl (cI, 9, .inl (fun zz => nI (a2 zz)))), ((h 11), .inl (cI, 198, .inl (fun zz => nI (a3 zz)))), ((h 12), .inl (cI, 9, .inl (fun zz => nI (a4 zz)))), ((h 13), .inl (cI, 9, .inl (fA a5)))] (fun _ => rfl) [] [(h 0), (h 1), (h 2), (h 3), (h 4), (h 5), (h 6), (h 7), (h 8), (h 9), (h 10), (h 11), (h 12), (h 13)] rfl rfl rfl rfl rfl (by decide) (by decide) 0 rfl rfl rfl (Nat.le_of_ble_eq_true rfl) dX10_yields_25 (fun u_25 h_25 => ?_) rfl
    show J l _ D ε _ _ _ (.int (nI (F (5 + 5 * r + 3)) - nI 1) :: _)
    refine j_istore_n EE [(3, _), (2, _), (0, _), (1, _)] dX10_yields_28 rfl (Nat.lt_of_lt_of_eq (by decide) hL.symm) rfl ?_
    refine j_aload_n EE 2 dX10_yields_29 rfl rfl ?_
    refine j_iload_n EE 3 dX10_yields_30 rfl rfl ?_
    refine j_iconst (v := nI 4) EE dX10_yields_31 (by decide) ?_
    refine j_V2 (n9 := 14) EE (c_X10_ofRuleW h F Q ft B Bt a1 a2 a3 a4 a5 fr W M km le sp ro r 4 (by omega) (by omega) (by omega)) gX10_yields_X10_ofRule ⟨rfl, hd_X10_ofRule⟩ rfl ⟨rfl, rfl⟩ ⟨by decide, by decide⟩ rfl [0, 1, 2, 3, 4, 5, 6, 7, 8, 9, 10, 11, 12, 13] rfl [] [((h 0), .inr (6, [.ref ((h 1)), .ref ((h 2)), .ref ((h 3)), .int (nI km), .ref ((h 4)), .int (nI le), .int (nI sp), .ref ((h 5)), .ref ((h 6)), .int (nI ro), .ref ((h 7)), .ref ((h 8)), .ref ((h 9)), .ref ((h 10)), .ref ((h 11)), .ref ((h 12)), .ref ((h 13))])), ((h 1), .inl (cI, 99, .inl (sA F))), ((h 2), .inl (cI, 99, .inl fr)), ((h 3), .inl (cI, 594, .inl (kA Q))), ((h 4), .inl (cI, 200, .inl (fun zz => nI (ft zz)))), ((h 5), .inl (cI, 12, .inl (fun zz => nI (B zz)))), ((h 6), .inl (cI, 12, .inl (fun zz => nI (Bt zz)))), ((h 7), .inl (cJ, 16, .inr (.inl W))), ((h 8), .inl (cJ, 16, .inr (.inl M))), ((h 9), .inl (cI, 9, .inl (fun zz => nI (a1 zz)))), ((h 10), .inl (cI, 9, .inl (fun zz => nI (a2 zz)))), ((h 11), .inl (cI, 198, .inl (fun zz => nI (a3 zz)))), ((h 12), .inl (cI, 9, .inl (fun zz => nI (a4 zz)))), ((h 13), .inl (cI, 9, .inl (fA a5)))] (fun _ => rfl) [] [(h 0), (h 1), (h 2), (h 3), (h 4), (h 5), (h 6), (h 7), (h 8), (h 9), (h 10), (h 11), (h 12), (h 13)] rfl rfl rfl rfl rfl (by decide) (by decide) 0 rfl rfl rfl (Nat.le_of_ble_eq_true rfl) dX10_yields_32 (fun u_32 h_32 => ?_) rfl
    show J l _ D ε _ _ _ (.int (nI (F (5 + 5 * r + 4)) - nI 1) :: _)
    refine j_istore EE [(4, _), (3, _), (2, _), (0, _), (1, _)] dX10_yields_35 (Nat.lt_of_lt_of_eq (by decide) hL.symm) rfl ?_
    refine j_iload_n EE 1 dX10_yields_37 rfl rfl ?_
    refine j_iconst (v := (-1)) EE dX10_yields_38 (by decide) ?_
    refine j_icmp_ne EE 48 dX10_yields_39 (by decide) (fun c39 => ?_) (fun c39 => ?_)
    · skip
      have n39 : ¬ F (5 + 5 * r + 3) = 0 := fun hq9 => c39 ((b_m1w (hFb _)).mpr hq9)
      refine j_aload_n EE 3 dX10_yields_48 rfl rfl ?_
      refine j_get (T := TX10) EE iw_X10_yields_X10 0 rfl rfl 7 (by decide) lk_X10_yields_22 rfl dX10_yields_49 ?_
      refine j_iconst (v := nI 3) EE dX10_yields_52 (by decide) ?_
      refine j_iload_n EE 2 dX10_yields_53 rfl rfl ?_
      refine j_imul EE dX10_yields_54 ?_
      refine j_topE (pk_mul 3 (F (5 + 5 * r + 2))) ?_
      refine j_iload_n EE 1 dX10_yields_55 rfl rfl ?_
      refine j_topE (y := nI (F (5 + 5 * r + 3) - 1)) (pk_sub (by omega)) ?_
      refine j_iadd EE dX10_yields_56 ?_
      refine j_topE (nI_add (3 * (F (5 + 5 * r + 2))) (F (5 + 5 * r + 3) - 1)) ?_
      refine j_iald EE 5 0 rfl rfl (vp_in_nI (n := (3 * (F (5 + 5 * r + 2))) + (F (5 + 5 * r + 3) - 1)) (by have := hFb (5 + 5 * r + 2); omega) (by decide)) dX10_yields_57 ?_
      refine j_topE (congrArg (fun zz => nI (B zz)) (nI_clamp (n := (3 * (F (5 + 5 * r + 2))) + (F (5 + 5 * r + 3) - 1)) (by have := hFb (5 + 5 * r + 2); omega))) ?_
      refine j_topE (y := nI (B ((3 * (F (5 + 5 * r + 2))) + (F (5 + 5 * r + 3) - 1)))) rfl ?_
      refine j_istore EE [(5, _), (4, _), (3, _), (2, _), (0, _), (1, _)] dX10_yields_58 (Nat.lt_of_lt_of_eq (by decide) hL.symm) rfl ?_
      refine j_iload EE 1 dX10_yields_60 rfl ?_
      refine j_iconst (v := (-1)) EE dX10_yields_62 (by decide) ?_
      refine j_icmp_ne EE 69 dX10_yields_63 (by decide) (fun c63 => ?_) (fun c63 => ?_)
      · skip
        have n63 : ¬ F (5 + 5 * r + 4) = 0 := fun hq9 => c63 ((b_m1w (hFb _)).mpr hq9)
        refine j_iconst (v := nI 0) EE dX10_yields_69 (by decide) ?_
        refine j_istore EE [(6, _), (5, _), (4, _), (3, _), (2, _), (0, _), (1, _)] dX10_yields_70 (Nat.lt_of_lt_of_eq (by decide) hL.symm) rfl ?_
        refine j_iconst (v := nI 0) EE dX10_yields_72 (by decide) ?_
        refine j_istore EE [(7, _), (6, _), (5, _), (4, _), (3, _), (2, _), (0, _), (1, _)] dX10_yields_73 (Nat.lt_of_lt_of_eq (by decide) hL.symm) rfl ?_
        exact Lp_75 _ 0 (Nat.lt_succ_self _) (by omega) n17 n39 n63
      · skip
        have n63 := (b_m1w (hFb _)).mp c63
        refine j_iload EE 0 dX10_yields_66 rfl ?_
        exact j_iret EE FF dX10_yields_68 () trivial (by unfold yM; rw [if_neg (by omega), if_neg n39, if_pos n63]) rfl
    · skip
      have n39 := (b_m1w (hFb _)).mp c39
      refine j_iconst (v := nI 1) EE dX10_yields_42 (by decide) ?_
      refine j_iconst (v := nI 1) EE dX10_yields_43 (by decide) ?_
      refine j_iload_n EE 2 dX10_yields_44 rfl rfl ?_
      refine j_ishl EE dX10_yields_45 ?_
      refine j_topE (y := nI (1 <<< F (5 + 5 * r + 2))) (b_sh1 _ (by omega)) ?_
      refine j_ishl EE dX10_yields_46 ?_
      refine j_topE (y := nI (1 <<< (1 <<< F (5 + 5 * r + 2)))) (b_sh1 _ hsq) ?_
      exact j_iret EE FF dX10_yields_47 () trivial (by unfold yM; rw [if_neg (by omega), if_pos n39]) rfl
  · skip
    have n17 : (bt (F 3) (F (5 + 5 * r + 2))) ≠ 0 := fun hq => c17 ((nI_eq (a := (bt (F 3) (F (5 + 5 * r + 2)))) (b := 0) (by have := bt_lt (F 3) (F (5 + 5 * r + 2)); omega) (by have := bt_lt (F 3) (F (5 + 5 * r + 2)); omega)).mpr hq)
    refine j_iconst (v := nI 1) EE dX10_yields_20 (by decide) ?_
    exact j_iret EE FF dX10_yields_21 () trivial (by unfold yM; rw [if_pos (bz_1 n17)]) rfl

theorem iw_X10_familyThen_X10 : ∀ w ∈ wsX100, w ∈ wsX10_familyThen := fun _ h => List.mem_cons_of_mem _ (List.mem_append_right _ h)
theorem lk_X10_familyThen_7 : Cond.fieldLink RX10 7 (TX10 0).1 (TX10 0).2.1 (TX10 0).2.2.1 ∈ wsX10_familyThen := List.mem_of_getElem? (i := 1) rfl
theorem hd_X10_minimal : yX10_minimal.cls ≠ "java/lang/invoke/MethodHandle" ∧ yX10_minimal.cls ≠ "java/lang/invoke/VarHandle" ∧ (parseMethodDescriptor yX10_minimal.desc).map (fun d => d.parameters.length) = some 1 := by decide +kernel
theorem hd_X10_yields : yX10_yields.cls ≠ "java/lang/invoke/MethodHandle" ∧ yX10_yields.cls ≠ "java/lang/invoke/VarHandle" ∧ (parseMethodDescriptor yX10_yields.desc).map (fun d => d.parameters.length) = some 1 := by decide +kernel
set_option maxHeartbeats 4000000 in
set_option maxRecDepth 100000 in
theorem c_X10_familyThen (h F Q ft B Bt a1 a2 a3 a4 a5 : Nat → Nat) (fr : Nat → Int32) (W M : Nat → Int64) (km le sp ro : Nat) (p y : Nat) (hFb : ∀ i, F i < 65536) (hp : p < 4) (hy : y < 3) (hn : F 4 ≤ 16) (hru : mRu F) (ht : F 3 < 16) (ho : F 2 < 16) (hB : ∀ i, B i < 65536) : Ct l yX10_familyThen wsX10_familyThen (rmD (3)) D [(cI, .int), (cC, .char), (cJ, .long), (cG, .object "PushdownGameSolver$Game")] [.ref ((h 0)), .int (nI p), .int (nI y)] [((h 0), .inr (6, [.ref ((h 1)), .ref ((h 2)), .ref ((h 3)), .int (nI km), .ref ((h 4)), .int (nI le), .int (nI sp), .ref ((h 5)), .ref ((h 6)), .int (nI ro), .ref ((h 7)), .ref ((h 8)), .ref ((h 9)), .ref ((h 10)), .ref ((h 11)), .ref ((h 12)), .ref ((h 13))])), ((h 1), .inl (cI, 99, .inl (sA F))), ((h 2), .inl (cI, 99, .inl fr)), ((h 3), .inl (cI, 594, .inl (kA Q))), ((h 4), .inl (cI, 200, .inl (fun zz => nI (ft zz)))), ((h 5), .inl (cI, 12, .inl (fun zz => nI (B zz)))), ((h 6), .inl (cI, 12, .inl (fun zz => nI (Bt zz)))), ((h 7), .inl (cJ, 16, .inr (.inl W))), ((h 8), .inl (cJ, 16, .inr (.inl M))), ((h 9), .inl (cI, 9, .inl (fun zz => nI (a1 zz)))), ((h 10), .inl (cI, 9, .inl (fun zz => nI (a2 zz)))), ((h 11), .inl (cI, 198, .inl (fun zz => nI (a3 zz)))), ((h 12), .inl (cI, 9, .inl (fun zz => nI (a4 zz)))), ((h 13), .inl (cI, 9, .inl (fA a5)))] (S := Unit) (fun _ => True) (fun _ => some (.int (nI (ftM F B p y)))) (fun _ => [((h 0), .inr (6, [.ref ((h 1)), .ref ((h 2)), .ref ((h 3)), .int (nI km), .ref ((h 4)), .int (nI le), .int (nI sp), .ref ((h 5)), .ref ((h 6)), .int (nI ro), .ref ((h 7)), .ref ((h 8)), .ref ((h 9)), .ref ((h 10)), .ref ((h 11)), .ref ((h 12)), .ref ((h 13))])), ((h 1), .inl (cI, 99, .inl (sA F))), ((h 2), .inl (cI, 99, .inl fr)), ((h 3), .inl (cI, 594, .inl (kA Q))), ((h 4), .inl (cI, 200, .inl (fun zz => nI (ft zz)))), ((h 5), .inl (cI, 12, .inl (fun zz => nI (B zz)))), ((h 6), .inl (cI, 12, .inl (fun zz => nI (Bt zz)))), ((h 7), .inl (cJ, 16, .inr (.inl W))), ((h 8), .inl (cJ, 16, .inr (.inl M))), ((h 9), .inl (cI, 9, .inl (fun zz => nI (a1 zz)))), ((h 10), .inl (cI, 9, .inl (fun zz => nI (a2 zz)))), ((h 11), .inl (cI, 198, .inl (fun zz => nI (a3 zz)))), ((h 12), .inl (cI, 9, .inl (fun zz => nI (a4 zz)))), ((h 13), .inl (cI, 9, .inl (fA a5)))]) := by
  refine Ct.of (lv := [(0, .ref ((h 0))), (1, .int (nI p)), (2, .int (nI y))]) (by decide) rfl (Nat.le_of_ble_eq_true rfl) rfl ?_
  intro ε hL EE FF
  have Lp_35 : ∀ (nf : Nat), ∀ (r : Nat), 17 - r < nf → (r ≤ F 4) → (bt (F 3) p = 0) → J l (rmD (3)) D ε [((h 0), .inr (6, [.ref ((h 1)), .ref ((h 2)), .ref ((h 3)), .int (nI km), .ref ((h 4)), .int (nI le), .int (nI sp), .ref ((h 5)), .ref ((h 6)), .int (nI ro), .ref ((h 7)), .ref ((h 8)), .ref ((h 9)), .ref ((h 10)), .ref ((h 11)), .ref ((h 12)), .ref ((h 13))])), ((h 1), .inl (cI, 99, .inl (sA F))), ((h 2), .inl (cI, 99, .inl fr)), ((h 3), .inl (cI, 594, .inl (kA Q))), ((h 4), .inl (cI, 200, .inl (fun zz => nI (ft zz)))), ((h 5), .inl (cI, 12, .inl (fun zz => nI (B zz)))), ((h 6), .inl (cI, 12, .inl (fun zz => nI (Bt zz)))), ((h 7), .inl (cJ, 16, .inr (.inl W))), ((h 8), .inl (cJ, 16, .inr (.inl M))), ((h 9), .inl (cI, 9, .inl (fun zz => nI (a1 zz)))), ((h 10), .inl (cI, 9, .inl (fun zz => nI (a2 zz)))), ((h 11), .inl (cI, 198, .inl (fun zz => nI (a3 zz)))), ((h 12), .inl (cI, 9, .inl (fun zz => nI (a4 zz)))), ((h 13), .inl (cI, 9, .inl (fA a5)))] 35 [(6, .int (nI r)), (5, .int (nI (ftA F p y r))), (4, .int (nI (ftS F B p y r))), (3, .int (nI (bt (F 2) p))), (0, .ref ((h 0))), (1, .int (nI p)), (2, .int (nI y))] [] := by
    intro nf
    induction nf with
    | zero => intro r hm; exact absurd hm (Nat.not_lt_zero _)
    | succ nf ihp_35 =>
      intro r hm35 hr n10
      have hfs := ftS_lt (p := p) (y := y) hru hB r (by omega)
      refine j_iload EE 0 dX10_familyThen_35 rfl ?_
      refine j_aload_n EE 4 dX10_familyThen_37 rfl rfl ?_
      refine j_get (T := TX10) EE iw_X10_familyThen_X10 0 rfl rfl 0 (by decide) lk_X10_familyThen_7 rfl dX10_familyThen_38 ?_
      refine j_iconst (v := nI 4) EE dX10_familyThen_41 (by decide) ?_
      refine j_iald EE 1 0 rfl rfl (vp_in_nI (n := 4) (by omega) (by decide)) dX10_familyThen_42 ?_
      refine j_topE (congrArg (sA F) (nI_clamp (n := 4) (by omega))) ?_
      refine j_topE (y := nI (F 4)) (sA_n (by omega)) ?_
      refine j_icmp_ge EE 116 dX10_familyThen_43 (by decide) (fun c43 => ?_) (fun c43 => ?_)
      · skip
        have n43 : (F 4) ≤ r := (nI_leI (a := (F 4)) (b := r) (by have := hFb 4; omega) (by have := hFb 4; omega)).mp c43
        refine j_iload EE 2 dX10_familyThen_116 rfl ?_
        refine j_S2 (n9 := 14) EE (c_X10_minimal (ftS F B p y r) (by omega)) gX10_familyThen_X10_minimal hd_X10_minimal rfl ⟨rfl, rfl⟩ ⟨by decide, by decide⟩ rfl [] rfl [0, 1, 2, 3, 4, 5, 6, 7, 8, 9, 10, 11, 12, 13] [((h 0), .inr (6, [.ref ((h 1)), .ref ((h 2)), .ref ((h 3)), .int (nI km), .ref ((h 4)), .int (nI le), .int (nI sp), .ref ((h 5)), .ref ((h 6)), .int (nI ro), .ref ((h 7)), .ref ((h 8)), .ref ((h 9)), .ref ((h 10)), .ref ((h 11)), .ref ((h 12)), .ref ((h 13))])), ((h 1), .inl (cI, 99, .inl (sA F))), ((h 2), .inl (cI, 99, .inl fr)), ((h 3), .inl (cI, 594, .inl (kA Q))), ((h 4), .inl (cI, 200, .inl (fun zz => nI (ft zz)))), ((h 5), .inl (cI, 12, .inl (fun zz => nI (B zz)))), ((h 6), .inl (cI, 12, .inl (fun zz => nI (Bt zz)))), ((h 7), .inl (cJ, 16, .inr (.inl W))), ((h 8), .inl (cJ, 16, .inr (.inl M))), ((h 9), .inl (cI, 9, .inl (fun zz => nI (a1 zz)))), ((h 10), .inl (cI, 9, .inl (fun zz => nI (a2 zz)))), ((h 11), .inl (cI, 198, .inl (fun zz => nI (a3 zz)))), ((h 12), .inl (cI, 9, .inl (fun zz => nI (a4 zz)))), ((h 13), .inl (cI, 9, .inl (fA a5)))] (fun _ => rfl) [((h 0), .inr (6, [.ref ((h 1)), .ref ((h 2)), .ref ((h 3)), .int (nI km), .ref ((h 4)), .int (nI le), .int (nI sp), .ref ((h 5)), .ref ((h 6)), .int (nI ro), .ref ((h 7)), .ref ((h 8)), .ref ((h 9)), .ref ((h 10)), .ref ((h 11)), .ref ((h 12)), .ref ((h 13))])), ((h 1), .inl (cI, 99, .inl (sA F))), ((h 2), .inl (cI, 99, .inl fr)), ((h 3), .inl (cI, 594, .inl (kA Q))), ((h 4), .inl (cI, 200, .inl (fun zz => nI (ft zz)))), ((h 5), .inl (cI, 12, .inl (fun zz => nI (B zz)))), ((h 6), .inl (cI, 12, .inl (fun zz => nI (Bt zz)))), ((h 7), .inl (cJ, 16, .inr (.inl W))), ((h 8), .inl (cJ, 16, .inr (.inl M))), ((h 9), .inl (cI, 9, .inl (fun zz => nI (a1 zz)))), ((h 10), .inl (cI, 9, .inl (fun zz => nI (a2 zz)))), ((h 11), .inl (cI, 198, .inl (fun zz => nI (a3 zz)))), ((h 12), .inl (cI, 9, .inl (fun zz => nI (a4 zz)))), ((h 13), .inl (cI, 9, .inl (fA a5)))] [(h 0), (h 1), (h 2), (h 3), (h 4), (h 5), (h 6), (h 7), (h 8), (h 9), (h 10), (h 11), (h 12), (h 13)] rfl rfl rfl rfl rfl (by decide) (by decide) rfl (Nat.le_of_ble_eq_true rfl) dX10_familyThen_118 (fun u_118 h_118 => ?_) rfl
        show J l _ D ε _ _ _ (.int (nI (miO (ftS F B p y r) 16)) :: _)
        exact j_iret EE FF dX10_familyThen_121 () trivial (by unfold ftM; rw [if_neg (by omega), show F 4 = r by omega]) rfl
      · skip
        have n43 : ¬ (F 4) ≤ r := fun hq => c43 ((nI_leI (a := (F 4)) (b := r) (by have := hFb 4; omega) (by have := hFb 4; omega)).mpr hq)
        refine j_aload_n EE 4 dX10_familyThen_46 rfl rfl ?_
        refine j_iload EE 0 dX10_familyThen_47 rfl ?_
        refine j_iconst (v := nI 0) EE dX10_familyThen_49 (by decide) ?_
        refine j_V2 (n9 := 14) EE (c_X10_ofRule h F Q ft B Bt a1 a2 a3 a4 a5 fr W M km le sp ro r 0 (by omega) (by omega)) gX10_familyThen_X10_ofRule ⟨rfl, hd_X10_ofRule⟩ rfl ⟨rfl, rfl⟩ ⟨by decide, by decide⟩ rfl [0, 1, 2, 3, 4, 5, 6, 7, 8, 9, 10, 11, 12, 13] rfl [] [((h 0), .inr (6, [.ref ((h 1)), .ref ((h 2)), .ref ((h 3)), .int (nI km), .ref ((h 4)), .int (nI le), .int (nI sp), .ref ((h 5)), .ref ((h 6)), .int (nI ro), .ref ((h 7)), .ref ((h 8)), .ref ((h 9)), .ref ((h 10)), .ref ((h 11)), .ref ((h 12)), .ref ((h 13))])), ((h 1), .inl (cI, 99, .inl (sA F))), ((h 2), .inl (cI, 99, .inl fr)), ((h 3), .inl (cI, 594, .inl (kA Q))), ((h 4), .inl (cI, 200, .inl (fun zz => nI (ft zz)))), ((h 5), .inl (cI, 12, .inl (fun zz => nI (B zz)))), ((h 6), .inl (cI, 12, .inl (fun zz => nI (Bt zz)))), ((h 7), .inl (cJ, 16, .inr (.inl W))), ((h 8), .inl (cJ, 16, .inr (.inl M))), ((h 9), .inl (cI, 9, .inl (fun zz => nI (a1 zz)))), ((h 10), .inl (cI, 9, .inl (fun zz => nI (a2 zz)))), ((h 11), .inl (cI, 198, .inl (fun zz => nI (a3 zz)))), ((h 12), .inl (cI, 9, .inl (fun zz => nI (a4 zz)))), ((h 13), .inl (cI, 9, .inl (fA a5)))] (fun _ => rfl) [] [(h 0), (h 1), (h 2), (h 3), (h 4), (h 5), (h 6), (h 7), (h 8), (h 9), (h 10), (h 11), (h 12), (h 13)] rfl rfl rfl rfl rfl (by decide) (by decide) 0 rfl rfl rfl (Nat.le_of_ble_eq_true rfl) dX10_familyThen_50 (fun u_50 h_50 => ?_) rfl
        show J l _ D ε _ _ _ (.int (nI (F (5 + 5 * r + 0))) :: _)
        refine j_iload_n EE 5 dX10_familyThen_53 rfl rfl ?_
        refine j_icmp_ne EE 110 dX10_familyThen_54 (by decide) (fun c54 => ?_) (fun c54 => ?_)
        · skip
          have n54 : (F (5 + 5 * r + 0)) ≠ p := fun hq => c54 ((nI_eq (a := (F (5 + 5 * r + 0))) (b := p) (by have := hFb (5 + 5 * r + 0); omega) (by have := hFb (5 + 5 * r + 0); omega)).mpr hq)
          refine j_iinc (v := nI (r + 1)) EE 0 [(6, .int (nI (r + 1))), (5, _), (4, _), (3, _), (0, _), (1, _), (2, _)] dX10_familyThen_110 rfl (nI_1 r) (Nat.lt_of_lt_of_eq (by decide) hL.symm) rfl ?_
          refine j_goto EE 35 dX10_familyThen_113 (by decide) ?_
          first | rw [show nI 1 = nI (ftA F p y (r + 1)) by conv => rhs; unfold ftA; rw [if_pos ⟨n54, n65⟩], show yM F B r = ftS F B p y (r + 1) by conv => rhs; unfold ftS; rw [if_pos ⟨n54, n65⟩, if_pos n78]] | rw [show nI 1 = nI (ftA F p y (r + 1)) by conv => rhs; unfold ftA; rw [if_pos ⟨n54, n65⟩], show unO (ftS F B p y r) (yM F B r) 16 = ftS F B p y (r + 1) by conv => rhs; unfold ftS; rw [if_pos ⟨n54, n65⟩, if_neg n78, if_pos (bz_1 n87)]] | rw [show nI 1 = nI (ftA F p y (r + 1)) by conv => rhs; unfold ftA; rw [if_pos ⟨n54, n65⟩], show ftS F B p y r ||| yM F B r = ftS F B p y (r + 1) by conv => rhs; unfold ftS; rw [if_pos ⟨n54, n65⟩, if_neg n78, if_neg (by omega)]] | rw [show ftA F p y r = ftA F p y (r + 1) by conv => rhs; unfold ftA; rw [if_neg (fun z => n54 z.1)], show ftS F B p y r = ftS F B p y (r + 1) by conv => rhs; unfold ftS; rw [if_neg (fun z => n54 z.1)]] | rw [show ftA F p y r = ftA F p y (r + 1) by conv => rhs; unfold ftA; rw [if_neg (fun z => n65 z.2)], show ftS F B p y r = ftS F B p y (r + 1) by conv => rhs; unfold ftS; rw [if_neg (fun z => n65 z.2)]]
          exact ihp_35 (r + 1) (by omega) (by omega) n10
        · skip
          have n54 : (F (5 + 5 * r + 0)) = p := (nI_eq (a := (F (5 + 5 * r + 0))) (b := p) (by have := hFb (5 + 5 * r + 0); omega) (by have := hFb (5 + 5 * r + 0); omega)).mp c54
          refine j_aload_n EE 4 dX10_familyThen_57 rfl rfl ?_
          refine j_iload EE 0 dX10_familyThen_58 rfl ?_
          refine j_iconst (v := nI 1) EE dX10_familyThen_60 (by decide) ?_
          refine j_V2 (n9 := 14) EE (c_X10_ofRule h F Q ft B Bt a1 a2 a3 a4 a5 fr W M km le sp ro r 1 (by omega) (by omega)) gX10_familyThen_X10_ofRule ⟨rfl, hd_X10_ofRule⟩ rfl ⟨rfl, rfl⟩ ⟨by decide, by decide⟩ rfl [0, 1, 2, 3, 4, 5, 6, 7, 8, 9, 10, 11, 12, 13] rfl [] [((h 0), .inr (6, [.ref ((h 1)), .ref ((h 2)), .ref ((h 3)), .int (nI km), .ref ((h 4)), .int (nI le), .int (nI sp), .ref ((h 5)), .ref ((h 6)), .int (nI ro), .ref ((h 7)), .ref ((h 8)), .ref ((h 9)), .ref ((h 10)), .ref ((h 11)), .ref ((h 12)), .ref ((h 13))])), ((h 1), .inl (cI, 99, .inl (sA F))), ((h 2), .inl (cI, 99, .inl fr)), ((h 3), .inl (cI, 594, .inl (kA Q))), ((h 4), .inl (cI, 200, .inl (fun zz => nI (ft zz)))), ((h 5), .inl (cI, 12, .inl (fun zz => nI (B zz)))), ((h 6), .inl (cI, 12, .inl (fun zz => nI (Bt zz)))), ((h 7), .inl (cJ, 16, .inr (.inl W))), ((h 8), .inl (cJ, 16, .inr (.inl M))), ((h 9), .inl (cI, 9, .inl (fun zz => nI (a1 zz)))), ((h 10), .inl (cI, 9, .inl (fun zz => nI (a2 zz)))), ((h 11), .inl (cI, 198, .inl (fun zz => nI (a3 zz)))), ((h 12), .inl (cI, 9, .inl (fun zz => nI (a4 zz)))), ((h 13), .inl (cI, 9, .inl (fA a5)))] (fun _ => rfl) [] [(h 0), (h 1), (h 2), (h 3), (h 4), (h 5), (h 6), (h 7), (h 8), (h 9), (h 10), (h 11), (h 12), (h 13)] rfl rfl rfl rfl rfl (by decide) (by decide) 0 rfl rfl rfl (Nat.le_of_ble_eq_true rfl) dX10_familyThen_61 (fun u_61 h_61 => ?_) rfl
          show J l _ D ε _ _ _ (.int (nI (F (5 + 5 * r + 1))) :: _)
          refine j_iload_n EE 6 dX10_familyThen_64 rfl rfl ?_
          refine j_icmp_ne EE 110 dX10_familyThen_65 (by decide) (fun c65 => ?_) (fun c65 => ?_)
          · skip
            have n65 : (F (5 + 5 * r + 1)) ≠ y := fun hq => c65 ((nI_eq (a := (F (5 + 5 * r + 1))) (b := y) (by have := hFb (5 + 5 * r + 1); omega) (by have := hFb (5 + 5 * r + 1); omega)).mpr hq)
            refine j_iinc (v := nI (r + 1)) EE 0 [(6, .int (nI (r + 1))), (5, _), (4, _), (3, _), (0, _), (1, _), (2, _)] dX10_familyThen_110 rfl (nI_1 r) (Nat.lt_of_lt_of_eq (by decide) hL.symm) rfl ?_
            refine j_goto EE 35 dX10_familyThen_113 (by decide) ?_
            first | rw [show nI 1 = nI (ftA F p y (r + 1)) by conv => rhs; unfold ftA; rw [if_pos ⟨n54, n65⟩], show yM F B r = ftS F B p y (r + 1) by conv => rhs; unfold ftS; rw [if_pos ⟨n54, n65⟩, if_pos n78]] | rw [show nI 1 = nI (ftA F p y (r + 1)) by conv => rhs; unfold ftA; rw [if_pos ⟨n54, n65⟩], show unO (ftS F B p y r) (yM F B r) 16 = ftS F B p y (r + 1) by conv => rhs; unfold ftS; rw [if_pos ⟨n54, n65⟩, if_neg n78, if_pos (bz_1 n87)]] | rw [show nI 1 = nI (ftA F p y (r + 1)) by conv => rhs; unfold ftA; rw [if_pos ⟨n54, n65⟩], show ftS F B p y r ||| yM F B r = ftS F B p y (r + 1) by conv => rhs; unfold ftS; rw [if_pos ⟨n54, n65⟩, if_neg n78, if_neg (by omega)]] | rw [show ftA F p y r = ftA F p y (r + 1) by conv => rhs; unfold ftA; rw [if_neg (fun z => n54 z.1)], show ftS F B p y r = ftS F B p y (r + 1) by conv => rhs; unfold ftS; rw [if_neg (fun z => n54 z.1)]] | rw [show ftA F p y r = ftA F p y (r + 1) by conv => rhs; unfold ftA; rw [if_neg (fun z => n65 z.2)], show ftS F B p y r = ftS F B p y (r + 1) by conv => rhs; unfold ftS; rw [if_neg (fun z => n65 z.2)]]
            exact ihp_35 (r + 1) (by omega) (by omega) n10
          · skip
            have n65 : (F (5 + 5 * r + 1)) = y := (nI_eq (a := (F (5 + 5 * r + 1))) (b := y) (by have := hFb (5 + 5 * r + 1); omega) (by have := hFb (5 + 5 * r + 1); omega)).mp c65
            refine j_aload_n EE 4 dX10_familyThen_68 rfl rfl ?_
            refine j_iload EE 0 dX10_familyThen_69 rfl ?_
            have hyr := hru r (by omega)
            refine j_V2 (n9 := 14) EE (c_X10_yields h F Q ft B Bt a1 a2 a3 a4 a5 fr W M km le sp ro r hFb (by omega) (hru r (by omega)).1 (hru r (by omega)).2.1 (hru r (by omega)).2.2 ht hB) gX10_familyThen_X10_yields ⟨rfl, hd_X10_yields⟩ rfl ⟨rfl, rfl⟩ ⟨by decide, by decide⟩ rfl [0, 1, 2, 3, 4, 5, 6, 7, 8, 9, 10, 11, 12, 13] rfl [] [((h 0), .inr (6, [.ref ((h 1)), .ref ((h 2)), .ref ((h 3)), .int (nI km), .ref ((h 4)), .int (nI le), .int (nI sp), .ref ((h 5)), .ref ((h 6)), .int (nI ro), .ref ((h 7)), .ref ((h 8)), .ref ((h 9)), .ref ((h 10)), .ref ((h 11)), .ref ((h 12)), .ref ((h 13))])), ((h 1), .inl (cI, 99, .inl (sA F))), ((h 2), .inl (cI, 99, .inl fr)), ((h 3), .inl (cI, 594, .inl (kA Q))), ((h 4), .inl (cI, 200, .inl (fun zz => nI (ft zz)))), ((h 5), .inl (cI, 12, .inl (fun zz => nI (B zz)))), ((h 6), .inl (cI, 12, .inl (fun zz => nI (Bt zz)))), ((h 7), .inl (cJ, 16, .inr (.inl W))), ((h 8), .inl (cJ, 16, .inr (.inl M))), ((h 9), .inl (cI, 9, .inl (fun zz => nI (a1 zz)))), ((h 10), .inl (cI, 9, .inl (fun zz => nI (a2 zz)))), ((h 11), .inl (cI, 198, .inl (fun zz => nI (a3 zz)))), ((h 12), .inl (cI, 9, .inl (fun zz => nI (a4 zz)))), ((h 13), .inl (cI, 9, .inl (fA a5)))] (fun _ => rfl) [] [(h 0), (h 1), (h 2), (h 3), (h 4), (h 5), (h 6), (h 7), (h 8), (h 9), (h 10), (h 11), (h 12), (h 13)] rfl rfl rfl rfl rfl (by decide) (by decide) 0 rfl rfl rfl (Nat.le_of_ble_eq_true rfl) dX10_familyThen_71 (fun u_71 h_71 => ?_) rfl
            show J l _ D ε _ _ _ (.int (nI (yM F B r)) :: _)
            refine j_istore EE [(7, _), (6, _), (5, _), (4, _), (3, _), (0, _), (1, _), (2, _)] dX10_familyThen_74 (Nat.lt_of_lt_of_eq (by decide) hL.symm) rfl ?_
            refine j_iload EE 2 dX10_familyThen_76 rfl ?_
            refine j_if_ne EE 86 dX10_familyThen_78 (by decide) (fun c78 => ?_) (fun c78 => ?_)
            · skip
              have n78 : (ftA F p y r) ≠ 0 := fun hq => c78 ((nI_eq (a := (ftA F p y r)) (b := 0) (by have := ftA_lt F p y r; omega) (by have := ftA_lt F p y r; omega)).mpr hq)
              refine j_iload_n EE 4 dX10_familyThen_86 rfl rfl ?_
              refine j_if_eq EE 100 dX10_familyThen_87 (by decide) (fun c87 => ?_) (fun c87 => ?_)
              · skip
                have n87 : (bt (F 2) p) = 0 := (nI_eq (a := (bt (F 2) p)) (b := 0) (by have := bt_lt (F 2) p; omega) (by have := bt_lt (F 2) p; omega)).mp c87
                refine j_iload EE 3 dX10_familyThen_100 rfl ?_
                refine j_iload EE 0 dX10_familyThen_102 rfl ?_
                refine j_ior EE dX10_familyThen_104 ?_
                refine j_topE (nI_or (ftS F B p y r) (yM F B r)) ?_
                refine j_istore EE [(4, _), (7, _), (6, _), (5, _), (3, _), (0, _), (1, _), (2, _)] dX10_familyThen_105 (Nat.lt_of_lt_of_eq (by decide) hL.symm) rfl ?_
                refine j_iconst (v := nI 1) EE dX10_familyThen_107 (by decide) ?_
                refine j_istore EE [(5, _), (4, _), (7, _), (6, _), (3, _), (0, _), (1, _), (2, _)] dX10_familyThen_108 (Nat.lt_of_lt_of_eq (by decide) hL.symm) rfl ?_
                refine j_iinc (v := nI (r + 1)) EE 3 [(6, .int (nI (r + 1))), (5, _), (4, _), (7, _), (3, _), (0, _), (1, _), (2, _)] dX10_familyThen_110 rfl (nI_1 r) (Nat.lt_of_lt_of_eq (by decide) hL.symm) rfl ?_
                refine j_goto EE 35 dX10_familyThen_113 (by decide) ?_
                refine j_lv [0, 1, 2, 4, 5, 6, 7] rfl ?_
                first | rw [show nI 1 = nI (ftA F p y (r + 1)) by conv => rhs; unfold ftA; rw [if_pos ⟨n54, n65⟩], show yM F B r = ftS F B p y (r + 1) by conv => rhs; unfold ftS; rw [if_pos ⟨n54, n65⟩, if_pos n78]] | rw [show nI 1 = nI (ftA F p y (r + 1)) by conv => rhs; unfold ftA; rw [if_pos ⟨n54, n65⟩], show unO (ftS F B p y r) (yM F B r) 16 = ftS F B p y (r + 1) by conv => rhs; unfold ftS; rw [if_pos ⟨n54, n65⟩, if_neg n78, if_pos (bz_1 n87)]] | rw [show nI 1 = nI (ftA F p y (r + 1)) by conv => rhs; unfold ftA; rw [if_pos ⟨n54, n65⟩], show ftS F B p y r ||| yM F B r = ftS F B p y (r + 1) by conv => rhs; unfold ftS; rw [if_pos ⟨n54, n65⟩, if_neg n78, if_neg (by omega)]] | rw [show ftA F p y r = ftA F p y (r + 1) by conv => rhs; unfold ftA; rw [if_neg (fun z => n54 z.1)], show ftS F B p y r = ftS F B p y (r + 1) by conv => rhs; unfold ftS; rw [if_neg (fun z => n54 z.1)]] | rw [show ftA F p y r = ftA F p y (r + 1) by conv => rhs; unfold ftA; rw [if_neg (fun z => n65 z.2)], show ftS F B p y r = ftS F B p y (r + 1) by conv => rhs; unfold ftS; rw [if_neg (fun z => n65 z.2)]]
                exact ihp_35 (r + 1) (by omega) (by omega) n10
              · skip
                have n87 : (bt (F 2) p) ≠ 0 := fun hq => c87 ((nI_eq (a := (bt (F 2) p)) (b := 0) (by have := bt_lt (F 2) p; omega) (by have := bt_lt (F 2) p; omega)).mpr hq)
                refine j_iload EE 3 dX10_familyThen_90 rfl ?_
                refine j_iload EE 0 dX10_familyThen_92 rfl ?_
                refine j_S2 (n9 := 14) EE (c_X10_unions (ftS F B p y r) (yM F B r) (by have := yM_lt (F := F) (B := B) (hru r (by omega)).1 hB; omega) (by have := yM_lt (F := F) (B := B) (hru r (by omega)).1 hB; omega)) gX10_familyThen_X10_unions hd_X10_unions rfl ⟨rfl, rfl⟩ ⟨by decide, by decide⟩ rfl [] rfl [0, 1, 2, 3, 4, 5, 6, 7, 8, 9, 10, 11, 12, 13] [((h 0), .inr (6, [.ref ((h 1)), .ref ((h 2)), .ref ((h 3)), .int (nI km), .ref ((h 4)), .int (nI le), .int (nI sp), .ref ((h 5)), .ref ((h 6)), .int (nI ro), .ref ((h 7)), .ref ((h 8)), .ref ((h 9)), .ref ((h 10)), .ref ((h 11)), .ref ((h 12)), .ref ((h 13))])), ((h 1), .inl (cI, 99, .inl (sA F))), ((h 2), .inl (cI, 99, .inl fr)), ((h 3), .inl (cI, 594, .inl (kA Q))), ((h 4), .inl (cI, 200, .inl (fun zz => nI (ft zz)))), ((h 5), .inl (cI, 12, .inl (fun zz => nI (B zz)))), ((h 6), .inl (cI, 12, .inl (fun zz => nI (Bt zz)))), ((h 7), .inl (cJ, 16, .inr (.inl W))), ((h 8), .inl (cJ, 16, .inr (.inl M))), ((h 9), .inl (cI, 9, .inl (fun zz => nI (a1 zz)))), ((h 10), .inl (cI, 9, .inl (fun zz => nI (a2 zz)))), ((h 11), .inl (cI, 198, .inl (fun zz => nI (a3 zz)))), ((h 12), .inl (cI, 9, .inl (fun zz => nI (a4 zz)))), ((h 13), .inl (cI, 9, .inl (fA a5)))] (fun _ => rfl) [((h 0), .inr (6, [.ref ((h 1)), .ref ((h 2)), .ref ((h 3)), .int (nI km), .ref ((h 4)), .int (nI le), .int (nI sp), .ref ((h 5)), .ref ((h 6)), .int (nI ro), .ref ((h 7)), .ref ((h 8)), .ref ((h 9)), .ref ((h 10)), .ref ((h 11)), .ref ((h 12)), .ref ((h 13))])), ((h 1), .inl (cI, 99, .inl (sA F))), ((h 2), .inl (cI, 99, .inl fr)), ((h 3), .inl (cI, 594, .inl (kA Q))), ((h 4), .inl (cI, 200, .inl (fun zz => nI (ft zz)))), ((h 5), .inl (cI, 12, .inl (fun zz => nI (B zz)))), ((h 6), .inl (cI, 12, .inl (fun zz => nI (Bt zz)))), ((h 7), .inl (cJ, 16, .inr (.inl W))), ((h 8), .inl (cJ, 16, .inr (.inl M))), ((h 9), .inl (cI, 9, .inl (fun zz => nI (a1 zz)))), ((h 10), .inl (cI, 9, .inl (fun zz => nI (a2 zz)))), ((h 11), .inl (cI, 198, .inl (fun zz => nI (a3 zz)))), ((h 12), .inl (cI, 9, .inl (fun zz => nI (a4 zz)))), ((h 13), .inl (cI, 9, .inl (fA a5)))] [(h 0), (h 1), (h 2), (h 3), (h 4), (h 5), (h 6), (h 7), (h 8), (h 9), (h 10), (h 11), (h 12), (h 13)] rfl rfl rfl rfl rfl (by decide) (by decide) rfl (Nat.le_of_ble_eq_true rfl) dX10_familyThen_94 (fun u_94 h_94 => ?_) rfl
                show J l _ D ε _ _ _ (.int (nI (unO (ftS F B p y r) (yM F B r) 16)) :: _)
                refine j_goto EE 105 dX10_familyThen_97 (by decide) ?_
                refine j_istore EE [(4, _), (7, _), (6, _), (5, _), (3, _), (0, _), (1, _), (2, _)] dX10_familyThen_105 (Nat.lt_of_lt_of_eq (by decide) hL.symm) rfl ?_
                refine j_iconst (v := nI 1) EE dX10_familyThen_107 (by decide) ?_
                refine j_istore EE [(5, _), (4, _), (7, _), (6, _), (3, _), (0, _), (1, _), (2, _)] dX10_familyThen_108 (Nat.lt_of_lt_of_eq (by decide) hL.symm) rfl ?_
                refine j_iinc (v := nI (r + 1)) EE 3 [(6, .int (nI (r + 1))), (5, _), (4, _), (7, _), (3, _), (0, _), (1, _), (2, _)] dX10_familyThen_110 rfl (nI_1 r) (Nat.lt_of_lt_of_eq (by decide) hL.symm) rfl ?_
                refine j_goto EE 35 dX10_familyThen_113 (by decide) ?_
                refine j_lv [0, 1, 2, 4, 5, 6, 7] rfl ?_
                first | rw [show nI 1 = nI (ftA F p y (r + 1)) by conv => rhs; unfold ftA; rw [if_pos ⟨n54, n65⟩], show yM F B r = ftS F B p y (r + 1) by conv => rhs; unfold ftS; rw [if_pos ⟨n54, n65⟩, if_pos n78]] | rw [show nI 1 = nI (ftA F p y (r + 1)) by conv => rhs; unfold ftA; rw [if_pos ⟨n54, n65⟩], show unO (ftS F B p y r) (yM F B r) 16 = ftS F B p y (r + 1) by conv => rhs; unfold ftS; rw [if_pos ⟨n54, n65⟩, if_neg n78, if_pos (bz_1 n87)]] | rw [show nI 1 = nI (ftA F p y (r + 1)) by conv => rhs; unfold ftA; rw [if_pos ⟨n54, n65⟩], show ftS F B p y r ||| yM F B r = ftS F B p y (r + 1) by conv => rhs; unfold ftS; rw [if_pos ⟨n54, n65⟩, if_neg n78, if_neg (by omega)]] | rw [show ftA F p y r = ftA F p y (r + 1) by conv => rhs; unfold ftA; rw [if_neg (fun z => n54 z.1)], show ftS F B p y r = ftS F B p y (r + 1) by conv => rhs; unfold ftS; rw [if_neg (fun z => n54 z.1)]] | rw [show ftA F p y r = ftA F p y (r + 1) by conv => rhs; unfold ftA; rw [if_neg (fun z => n65 z.2)], show ftS F B p y r = ftS F B p y (r + 1) by conv => rhs; unfold ftS; rw [if_neg (fun z => n65 z.2)]]
                exact ihp_35 (r + 1) (by omega) (by omega) n10
            · skip
              have n78 : (ftA F p y r) = 0 := (nI_eq (a := (ftA F p y r)) (b := 0) (by have := ftA_lt F p y r; omega) (by have := ftA_lt F p y r; omega)).mp c78
              refine j_iload EE 0 dX10_familyThen_81 rfl ?_
              refine j_goto EE 105 dX10_familyThen_83 (by decide) ?_
              refine j_istore EE [(4, _), (7, _), (6, _), (5, _), (3, _), (0, _), (1, _), (2, _)] dX10_familyThen_105 (Nat.lt_of_lt_of_eq (by decide) hL.symm) rfl ?_
              refine j_iconst (v := nI 1) EE dX10_familyThen_107 (by decide) ?_
              refine j_istore EE [(5, _), (4, _), (7, _), (6, _), (3, _), (0, _), (1, _), (2, _)] dX10_familyThen_108 (Nat.lt_of_lt_of_eq (by decide) hL.symm) rfl ?_
              refine j_iinc (v := nI (r + 1)) EE 3 [(6, .int (nI (r + 1))), (5, _), (4, _), (7, _), (3, _), (0, _), (1, _), (2, _)] dX10_familyThen_110 rfl (nI_1 r) (Nat.lt_of_lt_of_eq (by decide) hL.symm) rfl ?_
              refine j_goto EE 35 dX10_familyThen_113 (by decide) ?_
              refine j_lv [0, 1, 2, 4, 5, 6, 7] rfl ?_
              first | rw [show nI 1 = nI (ftA F p y (r + 1)) by conv => rhs; unfold ftA; rw [if_pos ⟨n54, n65⟩], show yM F B r = ftS F B p y (r + 1) by conv => rhs; unfold ftS; rw [if_pos ⟨n54, n65⟩, if_pos n78]] | rw [show nI 1 = nI (ftA F p y (r + 1)) by conv => rhs; unfold ftA; rw [if_pos ⟨n54, n65⟩], show unO (ftS F B p y r) (yM F B r) 16 = ftS F B p y (r + 1) by conv => rhs; unfold ftS; rw [if_pos ⟨n54, n65⟩, if_neg n78, if_pos (bz_1 n87)]] | rw [show nI 1 = nI (ftA F p y (r + 1)) by conv => rhs; unfold ftA; rw [if_pos ⟨n54, n65⟩], show ftS F B p y r ||| yM F B r = ftS F B p y (r + 1) by conv => rhs; unfold ftS; rw [if_pos ⟨n54, n65⟩, if_neg n78, if_neg (by omega)]] | rw [show ftA F p y r = ftA F p y (r + 1) by conv => rhs; unfold ftA; rw [if_neg (fun z => n54 z.1)], show ftS F B p y r = ftS F B p y (r + 1) by conv => rhs; unfold ftS; rw [if_neg (fun z => n54 z.1)]] | rw [show ftA F p y r = ftA F p y (r + 1) by conv => rhs; unfold ftA; rw [if_neg (fun z => n65 z.2)], show ftS F B p y r = ftS F B p y (r + 1) by conv => rhs; unfold ftS; rw [if_neg (fun z => n65 z.2)]]
              exact ihp_35 (r + 1) (by omega) (by omega) n10
  refine j_aload_n EE 0 dX10_familyThen_0 rfl rfl ?_
  refine j_get (T := TX10) EE iw_X10_familyThen_X10 0 rfl rfl 0 (by decide) lk_X10_familyThen_7 rfl dX10_familyThen_1 ?_
  refine j_iconst (v := nI 3) EE dX10_familyThen_4 (by decide) ?_
  refine j_iald EE 1 0 rfl rfl (vp_in_nI (n := 3) (by omega) (by decide)) dX10_familyThen_5 ?_
  refine j_topE (congrArg (sA F) (nI_clamp (n := 3) (by omega))) ?_
  refine j_topE (y := nI (F 3)) (sA_n (by omega)) ?_
  refine j_iload_n EE 1 dX10_familyThen_6 rfl rfl ?_
  refine j_S2 (n9 := 14) EE (c_X10_has (F 3) p (by have := hFb 3; omega) (by have := hFb 3; omega)) gX10_familyThen_X10_has hd_X10_has rfl ⟨rfl, rfl⟩ ⟨by decide, by decide⟩ rfl [] rfl [0, 1, 2, 3, 4, 5, 6, 7, 8, 9, 10, 11, 12, 13] [((h 0), .inr (6, [.ref ((h 1)), .ref ((h 2)), .ref ((h 3)), .int (nI km), .ref ((h 4)), .int (nI le), .int (nI sp), .ref ((h 5)), .ref ((h 6)), .int (nI ro), .ref ((h 7)), .ref ((h 8)), .ref ((h 9)), .ref ((h 10)), .ref ((h 11)), .ref ((h 12)), .ref ((h 13))])), ((h 1), .inl (cI, 99, .inl (sA F))), ((h 2), .inl (cI, 99, .inl fr)), ((h 3), .inl (cI, 594, .inl (kA Q))), ((h 4), .inl (cI, 200, .inl (fun zz => nI (ft zz)))), ((h 5), .inl (cI, 12, .inl (fun zz => nI (B zz)))), ((h 6), .inl (cI, 12, .inl (fun zz => nI (Bt zz)))), ((h 7), .inl (cJ, 16, .inr (.inl W))), ((h 8), .inl (cJ, 16, .inr (.inl M))), ((h 9), .inl (cI, 9, .inl (fun zz => nI (a1 zz)))), ((h 10), .inl (cI, 9, .inl (fun zz => nI (a2 zz)))), ((h 11), .inl (cI, 198, .inl (fun zz => nI (a3 zz)))), ((h 12), .inl (cI, 9, .inl (fun zz => nI (a4 zz)))), ((h 13), .inl (cI, 9, .inl (fA a5)))] (fun _ => rfl) [((h 0), .inr (6, [.ref ((h 1)), .ref ((h 2)), .ref ((h 3)), .int (nI km), .ref ((h 4)), .int (nI le), .int (nI sp), .ref ((h 5)), .ref ((h 6)), .int (nI ro), .ref ((h 7)), .ref ((h 8)), .ref ((h 9)), .ref ((h 10)), .ref ((h 11)), .ref ((h 12)), .ref ((h 13))])), ((h 1), .inl (cI, 99, .inl (sA F))), ((h 2), .inl (cI, 99, .inl fr)), ((h 3), .inl (cI, 594, .inl (kA Q))), ((h 4), .inl (cI, 200, .inl (fun zz => nI (ft zz)))), ((h 5), .inl (cI, 12, .inl (fun zz => nI (B zz)))), ((h 6), .inl (cI, 12, .inl (fun zz => nI (Bt zz)))), ((h 7), .inl (cJ, 16, .inr (.inl W))), ((h 8), .inl (cJ, 16, .inr (.inl M))), ((h 9), .inl (cI, 9, .inl (fun zz => nI (a1 zz)))), ((h 10), .inl (cI, 9, .inl (fun zz => nI (a2 zz)))), ((h 11), .inl (cI, 198, .inl (fun zz => nI (a3 zz)))), ((h 12), .inl (cI, 9, .inl (fun zz => nI (a4 zz)))), ((h 13), .inl (cI, 9, .inl (fA a5)))] [(h 0), (h 1), (h 2), (h 3), (h 4), (h 5), (h 6), (h 7), (h 8), (h 9), (h 10), (h 11), (h 12), (h 13)] rfl rfl rfl rfl rfl (by decide) (by decide) rfl (Nat.le_of_ble_eq_true rfl) dX10_familyThen_7 (fun u_7 h_7 => ?_) rfl
  show J l _ D ε _ _ _ (.int (nI (bt (F 3) p)) :: _)
  refine j_if_eq EE 15 dX10_familyThen_10 (by decide) (fun c10 => ?_) (fun c10 => ?_)
  · skip
    have n10 : (bt (F 3) p) = 0 := (nI_eq (a := (bt (F 3) p)) (b := 0) (by have := bt_lt (F 3) p; omega) (by have := bt_lt (F 3) p; omega)).mp c10
    refine j_aload_n EE 0 dX10_familyThen_15 rfl rfl ?_
    refine j_get (T := TX10) EE iw_X10_familyThen_X10 0 rfl rfl 0 (by decide) lk_X10_familyThen_7 rfl dX10_familyThen_16 ?_
    refine j_iconst (v := nI 2) EE dX10_familyThen_19 (by decide) ?_
    refine j_iald EE 1 0 rfl rfl (vp_in_nI (n := 2) (by omega) (by decide)) dX10_familyThen_20 ?_
    refine j_topE (congrArg (sA F) (nI_clamp (n := 2) (by omega))) ?_
    refine j_topE (y := nI (F 2)) (sA_n (by omega)) ?_
    refine j_iload_n EE 1 dX10_familyThen_21 rfl rfl ?_
    refine j_S2 (n9 := 14) EE (c_X10_has (F 2) p (by have := hFb 2; omega) (by have := hFb 2; omega)) gX10_familyThen_X10_has hd_X10_has rfl ⟨rfl, rfl⟩ ⟨by decide, by decide⟩ rfl [] rfl [0, 1, 2, 3, 4, 5, 6, 7, 8, 9, 10, 11, 12, 13] [((h 0), .inr (6, [.ref ((h 1)), .ref ((h 2)), .ref ((h 3)), .int (nI km), .ref ((h 4)), .int (nI le), .int (nI sp), .ref ((h 5)), .ref ((h 6)), .int (nI ro), .ref ((h 7)), .ref ((h 8)), .ref ((h 9)), .ref ((h 10)), .ref ((h 11)), .ref ((h 12)), .ref ((h 13))])), ((h 1), .inl (cI, 99, .inl (sA F))), ((h 2), .inl (cI, 99, .inl fr)), ((h 3), .inl (cI, 594, .inl (kA Q))), ((h 4), .inl (cI, 200, .inl (fun zz => nI (ft zz)))), ((h 5), .inl (cI, 12, .inl (fun zz => nI (B zz)))), ((h 6), .inl (cI, 12, .inl (fun zz => nI (Bt zz)))), ((h 7), .inl (cJ, 16, .inr (.inl W))), ((h 8), .inl (cJ, 16, .inr (.inl M))), ((h 9), .inl (cI, 9, .inl (fun zz => nI (a1 zz)))), ((h 10), .inl (cI, 9, .inl (fun zz => nI (a2 zz)))), ((h 11), .inl (cI, 198, .inl (fun zz => nI (a3 zz)))), ((h 12), .inl (cI, 9, .inl (fun zz => nI (a4 zz)))), ((h 13), .inl (cI, 9, .inl (fA a5)))] (fun _ => rfl) [((h 0), .inr (6, [.ref ((h 1)), .ref ((h 2)), .ref ((h 3)), .int (nI km), .ref ((h 4)), .int (nI le), .int (nI sp), .ref ((h 5)), .ref ((h 6)), .int (nI ro), .ref ((h 7)), .ref ((h 8)), .ref ((h 9)), .ref ((h 10)), .ref ((h 11)), .ref ((h 12)), .ref ((h 13))])), ((h 1), .inl (cI, 99, .inl (sA F))), ((h 2), .inl (cI, 99, .inl fr)), ((h 3), .inl (cI, 594, .inl (kA Q))), ((h 4), .inl (cI, 200, .inl (fun zz => nI (ft zz)))), ((h 5), .inl (cI, 12, .inl (fun zz => nI (B zz)))), ((h 6), .inl (cI, 12, .inl (fun zz => nI (Bt zz)))), ((h 7), .inl (cJ, 16, .inr (.inl W))), ((h 8), .inl (cJ, 16, .inr (.inl M))), ((h 9), .inl (cI, 9, .inl (fun zz => nI (a1 zz)))), ((h 10), .inl (cI, 9, .inl (fun zz => nI (a2 zz)))), ((h 11), .inl (cI, 198, .inl (fun zz => nI (a3 zz)))), ((h 12), .inl (cI, 9, .inl (fun zz => nI (a4 zz)))), ((h 13), .inl (cI, 9, .inl (fA a5)))] [(h 0), (h 1), (h 2), (h 3), (h 4), (h 5), (h 6), (h 7), (h 8), (h 9), (h 10), (h 11), (h 12), (h 13)] rfl rfl rfl rfl rfl (by decide) (by decide) rfl (Nat.le_of_ble_eq_true rfl) dX10_familyThen_22 (fun u_22 h_22 => ?_) rfl
    show J l _ D ε _ _ _ (.int (nI (bt (F 2) p)) :: _)
    refine j_istore_n EE [(3, _), (0, _), (1, _), (2, _)] dX10_familyThen_25 rfl (Nat.lt_of_lt_of_eq (by decide) hL.symm) rfl ?_
    refine j_iconst (v := nI 0) EE dX10_familyThen_26 (by decide) ?_
    refine j_istore EE [(4, _), (3, _), (0, _), (1, _), (2, _)] dX10_familyThen_27 (Nat.lt_of_lt_of_eq (by decide) hL.symm) rfl ?_
    refine j_iconst (v := nI 0) EE dX10_familyThen_29 (by decide) ?_
    refine j_istore EE [(5, _), (4, _), (3, _), (0, _), (1, _), (2, _)] dX10_familyThen_30 (Nat.lt_of_lt_of_eq (by decide) hL.symm) rfl ?_
    refine j_iconst (v := nI 0) EE dX10_familyThen_32 (by decide) ?_
    refine j_istore EE [(6, _), (5, _), (4, _), (3, _), (0, _), (1, _), (2, _)] dX10_familyThen_33 (Nat.lt_of_lt_of_eq (by decide) hL.symm) rfl ?_
    exact Lp_35 _ 0 (Nat.lt_succ_self _) (by omega) n10
  · skip
    have n10 : (bt (F 3) p) ≠ 0 := fun hq => c10 ((nI_eq (a := (bt (F 3) p)) (b := 0) (by have := bt_lt (F 3) p; omega) (by have := bt_lt (F 3) p; omega)).mpr hq)
    refine j_iconst (v := nI 1) EE dX10_familyThen_13 (by decide) ?_
    exact j_iret EE FF dX10_familyThen_14 () trivial (by unfold ftM; rw [if_pos (bz_1 n10)]) rfl

theorem iw_X10_beginRounds_X10 : ∀ w ∈ wsX100, w ∈ wsX10_beginRounds := fun _ h => List.mem_cons_of_mem _ (List.mem_append_right _ h)
theorem lk_X10_beginRounds_22 : Cond.fieldLink RX10 22 (TX10 7).1 (TX10 7).2.1 (TX10 7).2.2.1 ∈ wsX10_beginRounds := List.mem_of_getElem? (i := 2) rfl
theorem lk_X10_beginRounds_7 : Cond.fieldLink RX10 7 (TX10 0).1 (TX10 0).2.1 (TX10 0).2.2.1 ∈ wsX10_beginRounds := List.mem_of_getElem? (i := 3) rfl
theorem lk_X10_beginRounds_135 : Cond.fieldLink RX10 135 (TX10 9).1 (TX10 9).2.1 (TX10 9).2.2.1 ∈ wsX10_beginRounds := List.mem_of_getElem? (i := 1) rfl
set_option maxHeartbeats 4000000 in
set_option maxRecDepth 100000 in
theorem c_X10_beginRounds (h F Q ft B Bt a1 a2 a3 a4 a5 : Nat → Nat) (fr : Nat → Int32) (W M : Nat → Int64) (km le sp ro : Nat) (hFb : ∀ i, F i < 65536) (ht : F 3 < 16) : Ct l yX10_beginRounds wsX10_beginRounds (rmD (1)) D [(cI, .int), (cC, .char), (cJ, .long), (cG, .object "PushdownGameSolver$Game")] [.ref ((h 0))] [((h 0), .inr (6, [.ref ((h 1)), .ref ((h 2)), .ref ((h 3)), .int (nI km), .ref ((h 4)), .int (nI le), .int (nI sp), .ref ((h 5)), .ref ((h 6)), .int (nI ro), .ref ((h 7)), .ref ((h 8)), .ref ((h 9)), .ref ((h 10)), .ref ((h 11)), .ref ((h 12)), .ref ((h 13))])), ((h 1), .inl (cI, 99, .inl (sA F))), ((h 2), .inl (cI, 99, .inl fr)), ((h 3), .inl (cI, 594, .inl (kA Q))), ((h 4), .inl (cI, 200, .inl (fun zz => nI (ft zz)))), ((h 5), .inl (cI, 12, .inl (fun zz => nI (B zz)))), ((h 6), .inl (cI, 12, .inl (fun zz => nI (Bt zz)))), ((h 7), .inl (cJ, 16, .inr (.inl W))), ((h 8), .inl (cJ, 16, .inr (.inl M))), ((h 9), .inl (cI, 9, .inl (fun zz => nI (a1 zz)))), ((h 10), .inl (cI, 9, .inl (fun zz => nI (a2 zz)))), ((h 11), .inl (cI, 198, .inl (fun zz => nI (a3 zz)))), ((h 12), .inl (cI, 9, .inl (fun zz => nI (a4 zz)))), ((h 13), .inl (cI, 9, .inl (fA a5)))] (S := Unit) (fun _ => True) (fun _ => none) (fun _ => [((h 0), .inr (6, [.ref ((h 1)), .ref ((h 2)), .ref ((h 3)), .int (nI km), .ref ((h 4)), .int (nI le), .int (nI sp), .ref ((h 5)), .ref ((h 6)), .int (nI 0), .ref ((h 7)), .ref ((h 8)), .ref ((h 9)), .ref ((h 10)), .ref ((h 11)), .ref ((h 12)), .ref ((h 13))])), ((h 1), .inl (cI, 99, .inl (sA F))), ((h 2), .inl (cI, 99, .inl fr)), ((h 3), .inl (cI, 594, .inl (kA Q))), ((h 4), .inl (cI, 200, .inl (fun zz => nI (ft zz)))), ((h 5), .inl (cI, 12, .inl (fun zz => nI ((bgM F B 12) zz)))), ((h 6), .inl (cI, 12, .inl (fun zz => nI (Bt zz)))), ((h 7), .inl (cJ, 16, .inr (.inl W))), ((h 8), .inl (cJ, 16, .inr (.inl M))), ((h 9), .inl (cI, 9, .inl (fun zz => nI (a1 zz)))), ((h 10), .inl (cI, 9, .inl (fun zz => nI (a2 zz)))), ((h 11), .inl (cI, 198, .inl (fun zz => nI (a3 zz)))), ((h 12), .inl (cI, 9, .inl (fun zz => nI (a4 zz)))), ((h 13), .inl (cI, 9, .inl (fA a5)))]) := by
  refine Ct.of (lv := [(0, .ref ((h 0)))]) (by decide) rfl (Nat.le_of_ble_eq_true rfl) rfl ?_
  intro ε hL EE FF
  have Lp_7 : ∀ (nf : Nat), ∀ (k : Nat), 12 - k < nf → (k ≤ 12) → J l (rmD (1)) D ε [((h 0), .inr (6, [.ref ((h 1)), .ref ((h 2)), .ref ((h 3)), .int (nI km), .ref ((h 4)), .int (nI le), .int (nI sp), .ref ((h 5)), .ref ((h 6)), .int (nI 0), .ref ((h 7)), .ref ((h 8)), .ref ((h 9)), .ref ((h 10)), .ref ((h 11)), .ref ((h 12)), .ref ((h 13))])), ((h 1), .inl (cI, 99, .inl (sA F))), ((h 2), .inl (cI, 99, .inl fr)), ((h 3), .inl (cI, 594, .inl (kA Q))), ((h 4), .inl (cI, 200, .inl (fun zz => nI (ft zz)))), ((h 5), .inl (cI, 12, .inl (fun zz => nI ((bgM F B k) zz)))), ((h 6), .inl (cI, 12, .inl (fun zz => nI (Bt zz)))), ((h 7), .inl (cJ, 16, .inr (.inl W))), ((h 8), .inl (cJ, 16, .inr (.inl M))), ((h 9), .inl (cI, 9, .inl (fun zz => nI (a1 zz)))), ((h 10), .inl (cI, 9, .inl (fun zz => nI (a2 zz)))), ((h 11), .inl (cI, 198, .inl (fun zz => nI (a3 zz)))), ((h 12), .inl (cI, 9, .inl (fun zz => nI (a4 zz)))), ((h 13), .inl (cI, 9, .inl (fA a5)))] 7 [(1, .int (nI k)), (0, .ref ((h 0)))] [] := by
    intro nf
    induction nf with
    | zero => intro k hm; exact absurd hm (Nat.not_lt_zero _)
    | succ nf ihp_7 =>
      intro k hm7 hk
      refine j_iload_n EE 0 dX10_beginRounds_7 rfl rfl ?_
      refine j_bipush (v := nI 12) EE dX10_beginRounds_8 (by decide) ?_
      refine j_icmp_ge EE 57 dX10_beginRounds_10 (by decide) (fun c10 => ?_) (fun c10 => ?_)
      · skip
        have n10 : 12 ≤ k := (nI_leI (a := 12) (b := k) (by omega) (by omega)).mp c10
        exact j_vret EE FF dX10_beginRounds_57 () trivial rfl (by rw [show k = 12 by omega])
      · skip
        have n10 : ¬ 12 ≤ k := fun hq => c10 ((nI_leI (a := 12) (b := k) (by omega) (by omega)).mpr hq)
        refine j_aload_n EE 1 dX10_beginRounds_13 rfl rfl ?_
        refine j_get (T := TX10) EE iw_X10_beginRounds_X10 0 rfl rfl 7 (by decide) lk_X10_beginRounds_22 rfl dX10_beginRounds_14 ?_
        refine j_iload_n EE 0 dX10_beginRounds_17 rfl rfl ?_
        refine j_aload_n EE 1 dX10_beginRounds_18 rfl rfl ?_
        refine j_get (T := TX10) EE iw_X10_beginRounds_X10 0 rfl rfl 0 (by decide) lk_X10_beginRounds_7 rfl dX10_beginRounds_19 ?_
        refine j_iconst (v := nI 3) EE dX10_beginRounds_22 (by decide) ?_
        refine j_iald EE 1 0 rfl rfl (vp_in_nI (n := 3) (by omega) (by decide)) dX10_beginRounds_23 ?_
        refine j_topE (congrArg (sA F) (nI_clamp (n := 3) (by omega))) ?_
        refine j_topE (y := nI (F 3)) (sA_n (by omega)) ?_
        refine j_iload_n EE 0 dX10_beginRounds_24 rfl rfl ?_
        refine j_iconst (v := nI 3) EE dX10_beginRounds_25 (by decide) ?_
        refine j_idiv EE (by decide) dX10_beginRounds_26 ?_
        refine j_topE (y := nI (k / 3)) (pk_div (by omega) (by decide) (by decide)) ?_
        refine j_S2 (n9 := 14) EE (c_X10_has (F 3) (k / 3) (by have := hFb 3; omega) (by have := hFb 3; omega)) gX10_beginRounds_X10_has hd_X10_has rfl ⟨rfl, rfl⟩ ⟨by decide, by decide⟩ rfl [] rfl [0, 1, 2, 3, 4, 5, 6, 7, 8, 9, 10, 11, 12, 13] [((h 0), .inr (6, [.ref ((h 1)), .ref ((h 2)), .ref ((h 3)), .int (nI km), .ref ((h 4)), .int (nI le), .int (nI sp), .ref ((h 5)), .ref ((h 6)), .int (nI 0), .ref ((h 7)), .ref ((h 8)), .ref ((h 9)), .ref ((h 10)), .ref ((h 11)), .ref ((h 12)), .ref ((h 13))])), ((h 1), .inl (cI, 99, .inl (sA F))), ((h 2), .inl (cI, 99, .inl fr)), ((h 3), .inl (cI, 594, .inl (kA Q))), ((h 4), .inl (cI, 200, .inl (fun zz => nI (ft zz)))), ((h 5), .inl (cI, 12, .inl (fun zz => nI ((bgM F B k) zz)))), ((h 6), .inl (cI, 12, .inl (fun zz => nI (Bt zz)))), ((h 7), .inl (cJ, 16, .inr (.inl W))), ((h 8), .inl (cJ, 16, .inr (.inl M))), ((h 9), .inl (cI, 9, .inl (fun zz => nI (a1 zz)))), ((h 10), .inl (cI, 9, .inl (fun zz => nI (a2 zz)))), ((h 11), .inl (cI, 198, .inl (fun zz => nI (a3 zz)))), ((h 12), .inl (cI, 9, .inl (fun zz => nI (a4 zz)))), ((h 13), .inl (cI, 9, .inl (fA a5)))] (fun _ => rfl) [((h 0), .inr (6, [.ref ((h 1)), .ref ((h 2)), .ref ((h 3)), .int (nI km), .ref ((h 4)), .int (nI le), .int (nI sp), .ref ((h 5)), .ref ((h 6)), .int (nI 0), .ref ((h 7)), .ref ((h 8)), .ref ((h 9)), .ref ((h 10)), .ref ((h 11)), .ref ((h 12)), .ref ((h 13))])), ((h 1), .inl (cI, 99, .inl (sA F))), ((h 2), .inl (cI, 99, .inl fr)), ((h 3), .inl (cI, 594, .inl (kA Q))), ((h 4), .inl (cI, 200, .inl (fun zz => nI (ft zz)))), ((h 5), .inl (cI, 12, .inl (fun zz => nI ((bgM F B k) zz)))), ((h 6), .inl (cI, 12, .inl (fun zz => nI (Bt zz)))), ((h 7), .inl (cJ, 16, .inr (.inl W))), ((h 8), .inl (cJ, 16, .inr (.inl M))), ((h 9), .inl (cI, 9, .inl (fun zz => nI (a1 zz)))), ((h 10), .inl (cI, 9, .inl (fun zz => nI (a2 zz)))), ((h 11), .inl (cI, 198, .inl (fun zz => nI (a3 zz)))), ((h 12), .inl (cI, 9, .inl (fun zz => nI (a4 zz)))), ((h 13), .inl (cI, 9, .inl (fA a5)))] [(h 0), (h 1), (h 2), (h 3), (h 4), (h 5), (h 6), (h 7), (h 8), (h 9), (h 10), (h 11), (h 12), (h 13)] rfl rfl rfl rfl rfl (by decide) (by decide) rfl (Nat.le_of_ble_eq_true rfl) dX10_beginRounds_27 (fun u_27 h_27 => ?_) rfl
        show J l _ D ε _ _ _ (.int (nI (bt (F 3) (k / 3))) :: _)
        refine j_if_eq EE 49 dX10_beginRounds_30 (by decide) (fun c30 => ?_) (fun c30 => ?_)
        · skip
          have n30 : (bt (F 3) (k / 3)) = 0 := (nI_eq (a := (bt (F 3) (k / 3))) (b := 0) (by have := bt_lt (F 3) (k / 3); omega) (by have := bt_lt (F 3) (k / 3); omega)).mp c30
          refine j_iconst (v := nI 0) EE dX10_beginRounds_49 (by decide) ?_
          refine j_iast (ws' := [((h 0), .inr (6, [.ref ((h 1)), .ref ((h 2)), .ref ((h 3)), .int (nI km), .ref ((h 4)), .int (nI le), .int (nI sp), .ref ((h 5)), .ref ((h 6)), .int (nI 0), .ref ((h 7)), .ref ((h 8)), .ref ((h 9)), .ref ((h 10)), .ref ((h 11)), .ref ((h 12)), .ref ((h 13))])), ((h 1), .inl (cI, 99, .inl (sA F))), ((h 2), .inl (cI, 99, .inl fr)), ((h 3), .inl (cI, 594, .inl (kA Q))), ((h 4), .inl (cI, 200, .inl (fun zz => nI (ft zz)))), ((h 5), .inl (cI, 12, .inl (fun zz => nI ((bgM F B (k + 1)) zz)))), ((h 6), .inl (cI, 12, .inl (fun zz => nI (Bt zz)))), ((h 7), .inl (cJ, 16, .inr (.inl W))), ((h 8), .inl (cJ, 16, .inr (.inl M))), ((h 9), .inl (cI, 9, .inl (fun zz => nI (a1 zz)))), ((h 10), .inl (cI, 9, .inl (fun zz => nI (a2 zz)))), ((h 11), .inl (cI, 198, .inl (fun zz => nI (a3 zz)))), ((h 12), .inl (cI, 9, .inl (fun zz => nI (a4 zz)))), ((h 13), .inl (cI, 9, .inl (fA a5)))]) EE 5 0 rfl rfl (vp_in_nI (n := k) (by omega) (by decide)) (by rw [nI_clamp (by omega), upd_N, bgM_s F B k _ (by first | rw [decide_eq_true (show bt (F 3) (k / 3) = 1 ∧ k / 3 < F 0 from ⟨bz_1 n30, by omega⟩)]; rfl | rw [decide_eq_false (show ¬ (bt (F 3) (k / 3) = 1 ∧ k / 3 < F 0) from fun z => by omega)]; rfl)]; rfl) dX10_beginRounds_50 ?_
          refine j_iinc (v := nI (k + 1)) EE 0 [(1, .int (nI (k + 1))), (0, _)] dX10_beginRounds_51 rfl (nI_1 k) (Nat.lt_of_lt_of_eq (by decide) hL.symm) rfl ?_
          refine j_goto EE 7 dX10_beginRounds_54 (by decide) ?_
          exact ihp_7 (k + 1) (by omega) (by omega)
        · skip
          have n30 : (bt (F 3) (k / 3)) ≠ 0 := fun hq => c30 ((nI_eq (a := (bt (F 3) (k / 3))) (b := 0) (by have := bt_lt (F 3) (k / 3); omega) (by have := bt_lt (F 3) (k / 3); omega)).mpr hq)
          refine j_iload_n EE 0 dX10_beginRounds_33 rfl rfl ?_
          refine j_iconst (v := nI 3) EE dX10_beginRounds_34 (by decide) ?_
          refine j_idiv EE (by decide) dX10_beginRounds_35 ?_
          refine j_topE (y := nI (k / 3)) (pk_div (by omega) (by decide) (by decide)) ?_
          refine j_aload_n EE 1 dX10_beginRounds_36 rfl rfl ?_
          refine j_get (T := TX10) EE iw_X10_beginRounds_X10 0 rfl rfl 0 (by decide) lk_X10_beginRounds_7 rfl dX10_beginRounds_37 ?_
          refine j_iconst (v := nI 0) EE dX10_beginRounds_40 (by decide) ?_
          refine j_iald EE 1 0 rfl rfl (vp_in_nI (n := 0) (by omega) (by decide)) dX10_beginRounds_41 ?_
          refine j_topE (congrArg (sA F) (nI_clamp (n := 0) (by omega))) ?_
          refine j_topE (y := nI (F 0)) (sA_n (by omega)) ?_
          refine j_icmp_ge EE 49 dX10_beginRounds_42 (by decide) (fun c42 => ?_) (fun c42 => ?_)
          · skip
            have n42 : (F 0) ≤ (k / 3) := (nI_leI (a := (F 0)) (b := (k / 3)) (by have := hFb 0; omega) (by have := hFb 0; omega)).mp c42
            refine j_iconst (v := nI 0) EE dX10_beginRounds_49 (by decide) ?_
            refine j_iast (ws' := [((h 0), .inr (6, [.ref ((h 1)), .ref ((h 2)), .ref ((h 3)), .int (nI km), .ref ((h 4)), .int (nI le), .int (nI sp), .ref ((h 5)), .ref ((h 6)), .int (nI 0), .ref ((h 7)), .ref ((h 8)), .ref ((h 9)), .ref ((h 10)), .ref ((h 11)), .ref ((h 12)), .ref ((h 13))])), ((h 1), .inl (cI, 99, .inl (sA F))), ((h 2), .inl (cI, 99, .inl fr)), ((h 3), .inl (cI, 594, .inl (kA Q))), ((h 4), .inl (cI, 200, .inl (fun zz => nI (ft zz)))), ((h 5), .inl (cI, 12, .inl (fun zz => nI ((bgM F B (k + 1)) zz)))), ((h 6), .inl (cI, 12, .inl (fun zz => nI (Bt zz)))), ((h 7), .inl (cJ, 16, .inr (.inl W))), ((h 8), .inl (cJ, 16, .inr (.inl M))), ((h 9), .inl (cI, 9, .inl (fun zz => nI (a1 zz)))), ((h 10), .inl (cI, 9, .inl (fun zz => nI (a2 zz)))), ((h 11), .inl (cI, 198, .inl (fun zz => nI (a3 zz)))), ((h 12), .inl (cI, 9, .inl (fun zz => nI (a4 zz)))), ((h 13), .inl (cI, 9, .inl (fA a5)))]) EE 5 0 rfl rfl (vp_in_nI (n := k) (by omega) (by decide)) (by rw [nI_clamp (by omega), upd_N, bgM_s F B k _ (by first | rw [decide_eq_true (show bt (F 3) (k / 3) = 1 ∧ k / 3 < F 0 from ⟨bz_1 n30, by omega⟩)]; rfl | rw [decide_eq_false (show ¬ (bt (F 3) (k / 3) = 1 ∧ k / 3 < F 0) from fun z => by omega)]; rfl)]; rfl) dX10_beginRounds_50 ?_
            refine j_iinc (v := nI (k + 1)) EE 0 [(1, .int (nI (k + 1))), (0, _)] dX10_beginRounds_51 rfl (nI_1 k) (Nat.lt_of_lt_of_eq (by decide) hL.symm) rfl ?_
            refine j_goto EE 7 dX10_beginRounds_54 (by decide) ?_
            exact ihp_7 (k + 1) (by omega) (by omega)
          · skip
            have n42 : ¬ (F 0) ≤ (k / 3) := fun hq => c42 ((nI_leI (a := (F 0)) (b := (k / 3)) (by have := hFb 0; omega) (by have := hFb 0; omega)).mpr hq)
            refine j_iconst (v := nI 1) EE dX10_beginRounds_45 (by decide) ?_
            refine j_goto EE 50 dX10_beginRounds_46 (by decide) ?_
            refine j_iast (ws' := [((h 0), .inr (6, [.ref ((h 1)), .ref ((h 2)), .ref ((h 3)), .int (nI km), .ref ((h 4)), .int (nI le), .int (nI sp), .ref ((h 5)), .ref ((h 6)), .int (nI 0), .ref ((h 7)), .ref ((h 8)), .ref ((h 9)), .ref ((h 10)), .ref ((h 11)), .ref ((h 12)), .ref ((h 13))])), ((h 1), .inl (cI, 99, .inl (sA F))), ((h 2), .inl (cI, 99, .inl fr)), ((h 3), .inl (cI, 594, .inl (kA Q))), ((h 4), .inl (cI, 200, .inl (fun zz => nI (ft zz)))), ((h 5), .inl (cI, 12, .inl (fun zz => nI ((bgM F B (k + 1)) zz)))), ((h 6), .inl (cI, 12, .inl (fun zz => nI (Bt zz)))), ((h 7), .inl (cJ, 16, .inr (.inl W))), ((h 8), .inl (cJ, 16, .inr (.inl M))), ((h 9), .inl (cI, 9, .inl (fun zz => nI (a1 zz)))), ((h 10), .inl (cI, 9, .inl (fun zz => nI (a2 zz)))), ((h 11), .inl (cI, 198, .inl (fun zz => nI (a3 zz)))), ((h 12), .inl (cI, 9, .inl (fun zz => nI (a4 zz)))), ((h 13), .inl (cI, 9, .inl (fA a5)))]) EE 5 0 rfl rfl (vp_in_nI (n := k) (by omega) (by decide)) (by rw [nI_clamp (by omega), upd_N, bgM_s F B k _ (by first | rw [decide_eq_true (show bt (F 3) (k / 3) = 1 ∧ k / 3 < F 0 from ⟨bz_1 n30, by omega⟩)]; rfl | rw [decide_eq_false (show ¬ (bt (F 3) (k / 3) = 1 ∧ k / 3 < F 0) from fun z => by omega)]; rfl)]; rfl) dX10_beginRounds_50 ?_
            refine j_iinc (v := nI (k + 1)) EE 0 [(1, .int (nI (k + 1))), (0, _)] dX10_beginRounds_51 rfl (nI_1 k) (Nat.lt_of_lt_of_eq (by decide) hL.symm) rfl ?_
            refine j_goto EE 7 dX10_beginRounds_54 (by decide) ?_
            exact ihp_7 (k + 1) (by omega) (by omega)
  refine j_aload_n EE 0 dX10_beginRounds_0 rfl rfl ?_
  refine j_iconst (v := nI 0) EE dX10_beginRounds_1 (by decide) ?_
  refine j_put (T := TX10) (ws' := [((h 0), .inr (6, [.ref ((h 1)), .ref ((h 2)), .ref ((h 3)), .int (nI km), .ref ((h 4)), .int (nI le), .int (nI sp), .ref ((h 5)), .ref ((h 6)), .int (nI 0), .ref ((h 7)), .ref ((h 8)), .ref ((h 9)), .ref ((h 10)), .ref ((h 11)), .ref ((h 12)), .ref ((h 13))])), ((h 1), .inl (cI, 99, .inl (sA F))), ((h 2), .inl (cI, 99, .inl fr)), ((h 3), .inl (cI, 594, .inl (kA Q))), ((h 4), .inl (cI, 200, .inl (fun zz => nI (ft zz)))), ((h 5), .inl (cI, 12, .inl (fun zz => nI (B zz)))), ((h 6), .inl (cI, 12, .inl (fun zz => nI (Bt zz)))), ((h 7), .inl (cJ, 16, .inr (.inl W))), ((h 8), .inl (cJ, 16, .inr (.inl M))), ((h 9), .inl (cI, 9, .inl (fun zz => nI (a1 zz)))), ((h 10), .inl (cI, 9, .inl (fun zz => nI (a2 zz)))), ((h 11), .inl (cI, 198, .inl (fun zz => nI (a3 zz)))), ((h 12), .inl (cI, 9, .inl (fun zz => nI (a4 zz)))), ((h 13), .inl (cI, 9, .inl (fA a5)))]) EE iw_X10_beginRounds_X10 tyX10 tyX10_ok nmX10 0 rfl rfl 9 (by decide) lk_X10_beginRounds_135 rfl rfl rfl (Nat.le_of_ble_eq_true rfl) rfl dX10_beginRounds_2 ?_
  refine j_iconst (v := nI 0) EE dX10_beginRounds_5 (by decide) ?_
  refine j_istore_n EE [(1, _), (0, _)] dX10_beginRounds_6 rfl (Nat.lt_of_lt_of_eq (by decide) hL.symm) rfl ?_
  rw [← bgM_0 F B]
  exact Lp_7 _ 0 (Nat.lt_succ_self _) (by omega)

theorem iw_X10_goesOn_X10 : ∀ w ∈ wsX100, w ∈ wsX10_goesOn := fun _ h => List.mem_cons_of_mem _ (List.mem_append_right _ h)
theorem lk_X10_goesOn_7 : Cond.fieldLink RX10 7 (TX10 0).1 (TX10 0).2.1 (TX10 0).2.2.1 ∈ wsX10_goesOn := List.mem_of_getElem? (i := 1) rfl
theorem lk_X10_goesOn_22 : Cond.fieldLink RX10 22 (TX10 7).1 (TX10 7).2.1 (TX10 7).2.2.1 ∈ wsX10_goesOn := List.mem_of_getElem? (i := 3) rfl
theorem lk_X10_goesOn_25 : Cond.fieldLink RX10 25 (TX10 8).1 (TX10 8).2.1 (TX10 8).2.2.1 ∈ wsX10_goesOn := List.mem_of_getElem? (i := 2) rfl
theorem lk_X10_goesOn_135 : Cond.fieldLink RX10 135 (TX10 9).1 (TX10 9).2.1 (TX10 9).2.2.1 ∈ wsX10_goesOn := List.mem_of_getElem? (i := 4) rfl
theorem hd_X10_familyThen : yX10_familyThen.cls ≠ "java/lang/invoke/MethodHandle" ∧ yX10_familyThen.cls ≠ "java/lang/invoke/VarHandle" ∧ (parseMethodDescriptor yX10_familyThen.desc).map (fun d => d.parameters.length) = some 2 := by decide +kernel
set_option maxHeartbeats 4000000 in
set_option maxRecDepth 100000 in
theorem c_X10_goesOn (h F Q ft B Bt a1 a2 a3 a4 a5 : Nat → Nat) (fr : Nat → Int32) (W M : Nat → Int64) (km le sp ro : Nat) (hFb : ∀ i, F i < 65536) (hP : F 0 ≤ 4) (hY : F 1 ≤ 3) (hn : F 4 ≤ 16) (hru : mRu F) (ht : F 3 < 16) (ho : F 2 < 16) (hB : ∀ i, B i < 65536) : Ct l yX10_goesOn wsX10_goesOn (rmD (4)) D [(cI, .int), (cC, .char), (cJ, .long), (cG, .object "PushdownGameSolver$Game")] [.ref ((h 0))] [((h 0), .inr (6, [.ref ((h 1)), .ref ((h 2)), .ref ((h 3)), .int (nI km), .ref ((h 4)), .int (nI le), .int (nI sp), .ref ((h 5)), .ref ((h 6)), .int (nI ro), .ref ((h 7)), .ref ((h 8)), .ref ((h 9)), .ref ((h 10)), .ref ((h 11)), .ref ((h 12)), .ref ((h 13))])), ((h 1), .inl (cI, 99, .inl (sA F))), ((h 2), .inl (cI, 99, .inl fr)), ((h 3), .inl (cI, 594, .inl (kA Q))), ((h 4), .inl (cI, 200, .inl (fun zz => nI (ft zz)))), ((h 5), .inl (cI, 12, .inl (fun zz => nI (B zz)))), ((h 6), .inl (cI, 12, .inl (fun zz => nI (Bt zz)))), ((h 7), .inl (cJ, 16, .inr (.inl W))), ((h 8), .inl (cJ, 16, .inr (.inl M))), ((h 9), .inl (cI, 9, .inl (fun zz => nI (a1 zz)))), ((h 10), .inl (cI, 9, .inl (fun zz => nI (a2 zz)))), ((h 11), .inl (cI, 198, .inl (fun zz => nI (a3 zz)))), ((h 12), .inl (cI, 9, .inl (fun zz => nI (a4 zz)))), ((h 13), .inl (cI, 9, .inl (fA a5)))] (S := Unit) (fun _ => True) (fun _ => some (.int (nI (b2n (chM F B (F 0) 0))))) (fun _ => [((h 0), .inr (6, [.ref ((h 1)), .ref ((h 2)), .ref ((h 3)), .int (nI km), .ref ((h 4)), .int (nI le), .int (nI sp), .ref ((h 5)), .ref ((h 6)), .int (nI (ro + b2n (chM F B (F 0) 0))), .ref ((h 7)), .ref ((h 8)), .ref ((h 9)), .ref ((h 10)), .ref ((h 11)), .ref ((h 12)), .ref ((h 13))])), ((h 1), .inl (cI, 99, .inl (sA F))), ((h 2), .inl (cI, 99, .inl fr)), ((h 3), .inl (cI, 594, .inl (kA Q))), ((h 4), .inl (cI, 200, .inl (fun zz => nI (ft zz)))), ((h 5), .inl (cI, 12, .inl (fun zz => nI ((if chM F B (F 0) 0 = true then stM F B (F 0) 0 else B) zz)))), ((h 6), .inl (cI, 12, .inl (fun zz => nI ((thM F B Bt (F 0) 0) zz)))), ((h 7), .inl (cJ, 16, .inr (.inl W))), ((h 8), .inl (cJ, 16, .inr (.inl M))), ((h 9), .inl (cI, 9, .inl (fun zz => nI (a1 zz)))), ((h 10), .inl (cI, 9, .inl (fun zz => nI (a2 zz)))), ((h 11), .inl (cI, 198, .inl (fun zz => nI (a3 zz)))), ((h 12), .inl (cI, 9, .inl (fun zz => nI (a4 zz)))), ((h 13), .inl (cI, 9, .inl (fA a5)))]) := by
  refine Ct.of (lv := [(0, .ref ((h 0)))]) (by decide) rfl (Nat.le_of_ble_eq_true rfl) rfl ?_
  intro ε hL EE FF
  have Lp_89 : ∀ (nf : Nat), ∀ (p : Nat), 4 - p < nf → (p ≤ F 0) → (chM F B (F 0) 0 = true ∨ p = 0) → J l (rmD (4)) D ε [((h 0), .inr (6, [.ref ((h 1)), .ref ((h 2)), .ref ((h 3)), .int (nI km), .ref ((h 4)), .int (nI le), .int (nI sp), .ref ((h 5)), .ref ((h 6)), .int (nI ro), .ref ((h 7)), .ref ((h 8)), .ref ((h 9)), .ref ((h 10)), .ref ((h 11)), .ref ((h 12)), .ref ((h 13))])), ((h 1), .inl (cI, 99, .inl (sA F))), ((h 2), .inl (cI, 99, .inl fr)), ((h 3), .inl (cI, 594, .inl (kA Q))), ((h 4), .inl (cI, 200, .inl (fun zz => nI (ft zz)))), ((h 5), .inl (cI, 12, .inl (fun zz => nI ((stM F B p 0) zz)))), ((h 6), .inl (cI, 12, .inl (fun zz => nI ((thM F B Bt (F 0) 0) zz)))), ((h 7), .inl (cJ, 16, .inr (.inl W))), ((h 8), .inl (cJ, 16, .inr (.inl M))), ((h 9), .inl (cI, 9, .inl (fun zz => nI (a1 zz)))), ((h 10), .inl (cI, 9, .inl (fun zz => nI (a2 zz)))), ((h 11), .inl (cI, 198, .inl (fun zz => nI (a3 zz)))), ((h 12), .inl (cI, 9, .inl (fun zz => nI (a4 zz)))), ((h 13), .inl (cI, 9, .inl (fA a5)))] 89 [(2, .int (nI p)), (1, .int (nI (b2n (chM F B (F 0) 0)))), (0, .ref ((h 0)))] [] := by
    intro nf
    induction nf with
    | zero => intro p hm; exact absurd hm (Nat.not_lt_zero _)
    | succ nf ihp_89 =>
      intro p hm89 hp hc0
      have Lp_105 : ∀ (nf : Nat), ∀ (y : Nat), 4 - y < nf → (y ≤ F 1) → (p < F 0) → (chM F B (F 0) 0 = true) → J l (rmD (4)) D ε [((h 0), .inr (6, [.ref ((h 1)), .ref ((h 2)), .ref ((h 3)), .int (nI km), .ref ((h 4)), .int (nI le), .int (nI sp), .ref ((h 5)), .ref ((h 6)), .int (nI ro), .ref ((h 7)), .ref ((h 8)), .ref ((h 9)), .ref ((h 10)), .ref ((h 11)), .ref ((h 12)), .ref ((h 13))])), ((h 1), .inl (cI, 99, .inl (sA F))), ((h 2), .inl (cI, 99, .inl fr)), ((h 3), .inl (cI, 594, .inl (kA Q))), ((h 4), .inl (cI, 200, .inl (fun zz => nI (ft zz)))), ((h 5), .inl (cI, 12, .inl (fun zz => nI ((stM F B p y) zz)))), ((h 6), .inl (cI, 12, .inl (fun zz => nI ((thM F B Bt (F 0) 0) zz)))), ((h 7), .inl (cJ, 16, .inr (.inl W))), ((h 8), .inl (cJ, 16, .inr (.inl M))), ((h 9), .inl (cI, 9, .inl (fun zz => nI (a1 zz)))), ((h 10), .inl (cI, 9, .inl (fun zz => nI (a2 zz)))), ((h 11), .inl (cI, 198, .inl (fun zz => nI (a3 zz)))), ((h 12), .inl (cI, 9, .inl (fun zz => nI (a4 zz)))), ((h 13), .inl (cI, 9, .inl (fA a5)))] 105 [(3, .int (nI y)), (2, .int (nI p)), (1, .int (nI (b2n (chM F B (F 0) 0)))), (0, .ref ((h 0)))] [] := by
        intro nf
        induction nf with
        | zero => intro y hm; exact absurd hm (Nat.not_lt_zero _)
        | succ nf ihp_105 =>
          intro y hm105 hy hpl hct
          refine j_iload_n EE 0 dX10_goesOn_105 rfl rfl ?_
          refine j_aload_n EE 3 dX10_goesOn_106 rfl rfl ?_
          refine j_get (T := TX10) EE iw_X10_goesOn_X10 0 rfl rfl 0 (by decide) lk_X10_goesOn_7 rfl dX10_goesOn_107 ?_
          refine j_iconst (v := nI 1) EE dX10_goesOn_110 (by decide) ?_
          refine j_iald EE 1 0 rfl rfl (vp_in_nI (n := 1) (by omega) (by decide)) dX10_goesOn_111 ?_
          refine j_topE (congrArg (sA F) (nI_clamp (n := 1) (by omega))) ?_
          refine j_topE (y := nI (F 1)) (sA_n (by omega)) ?_
          refine j_icmp_ge EE 141 dX10_goesOn_112 (by decide) (fun c112 => ?_) (fun c112 => ?_)
          · skip
            have n112 : (F 1) ≤ y := (nI_leI (a := (F 1)) (b := y) (by have := hFb 1; omega) (by have := hFb 1; omega)).mp c112
            refine j_iinc (v := nI (p + 1)) EE 1 [(2, .int (nI (p + 1))), (3, _), (1, _), (0, _)] dX10_goesOn_141 rfl (nI_1 p) (Nat.lt_of_lt_of_eq (by decide) hL.symm) rfl ?_
            refine j_goto EE 89 dX10_goesOn_144 (by decide) ?_
            refine j_lv [0, 2, 3] rfl ?_
            rw [show y = F 1 by omega, stM_r]
            exact ihp_89 (p + 1) (by omega) (by omega) (Or.inl hct)
          · skip
            have n112 : ¬ (F 1) ≤ y := fun hq => c112 ((nI_leI (a := (F 1)) (b := y) (by have := hFb 1; omega) (by have := hFb 1; omega)).mpr hq)
            refine j_aload_n EE 3 dX10_goesOn_115 rfl rfl ?_
            refine j_get (T := TX10) EE iw_X10_goesOn_X10 0 rfl rfl 7 (by decide) lk_X10_goesOn_22 rfl dX10_goesOn_116 ?_
            refine j_iconst (v := nI 3) EE dX10_goesOn_119 (by decide) ?_
            refine j_iload_n EE 1 dX10_goesOn_120 rfl rfl ?_
            refine j_imul EE dX10_goesOn_121 ?_
            refine j_topE (pk_mul 3 p) ?_
            refine j_iload_n EE 0 dX10_goesOn_122 rfl rfl ?_
            refine j_iadd EE dX10_goesOn_123 ?_
            refine j_topE (nI_add (3 * p) y) ?_
            refine j_aload_n EE 3 dX10_goesOn_124 rfl rfl ?_
            refine j_get (T := TX10) EE iw_X10_goesOn_X10 0 rfl rfl 8 (by decide) lk_X10_goesOn_25 rfl dX10_goesOn_125 ?_
            refine j_iconst (v := nI 3) EE dX10_goesOn_128 (by decide) ?_
            refine j_iload_n EE 1 dX10_goesOn_129 rfl rfl ?_
            refine j_imul EE dX10_goesOn_130 ?_
            refine j_topE (pk_mul 3 p) ?_
            refine j_iload_n EE 0 dX10_goesOn_131 rfl rfl ?_
            refine j_iadd EE dX10_goesOn_132 ?_
            refine j_topE (nI_add (3 * p) y) ?_
            refine j_iald EE 6 0 rfl rfl (vp_in_nI (n := (3 * p) + y) (by omega) (by decide)) dX10_goesOn_133 ?_
            refine j_topE (congrArg (fun zz => nI ((thM F B Bt (F 0) 0) zz)) (nI_clamp (n := (3 * p) + y) (by omega))) ?_
            refine j_topE (y := nI ((thM F B Bt (F 0) 0) ((3 * p) + y))) rfl ?_
            refine j_iast (ws' := [((h 0), .inr (6, [.ref ((h 1)), .ref ((h 2)), .ref ((h 3)), .int (nI km), .ref ((h 4)), .int (nI le), .int (nI sp), .ref ((h 5)), .ref ((h 6)), .int (nI ro), .ref ((h 7)), .ref ((h 8)), .ref ((h 9)), .ref ((h 10)), .ref ((h 11)), .ref ((h 12)), .ref ((h 13))])), ((h 1), .inl (cI, 99, .inl (sA F))), ((h 2), .inl (cI, 99, .inl fr)), ((h 3), .inl (cI, 594, .inl (kA Q))), ((h 4), .inl (cI, 200, .inl (fun zz => nI (ft zz)))), ((h 5), .inl (cI, 12, .inl (fun zz => nI ((stM F B p (y + 1)) zz)))), ((h 6), .inl (cI, 12, .inl (fun zz => nI ((thM F B Bt (F 0) 0) zz)))), ((h 7), .inl (cJ, 16, .inr (.inl W))), ((h 8), .inl (cJ, 16, .inr (.inl M))), ((h 9), .inl (cI, 9, .inl (fun zz => nI (a1 zz)))), ((h 10), .inl (cI, 9, .inl (fun zz => nI (a2 zz)))), ((h 11), .inl (cI, 198, .inl (fun zz => nI (a3 zz)))), ((h 12), .inl (cI, 9, .inl (fun zz => nI (a4 zz)))), ((h 13), .inl (cI, 9, .inl (fA a5)))]) EE 5 0 rfl rfl (vp_in_nI (n := (3 * p) + y) (by omega) (by decide)) (by rw [nI_clamp (by omega), upd_N, stM_s (by omega) hY (by omega)]; rfl) dX10_goesOn_134 ?_
            refine j_iinc (v := nI (y + 1)) EE 0 [(3, .int (nI (y + 1))), (2, _), (1, _), (0, _)] dX10_goesOn_135 rfl (nI_1 y) (Nat.lt_of_lt_of_eq (by decide) hL.symm) rfl ?_
            refine j_goto EE 105 dX10_goesOn_138 (by decide) ?_
            exact ihp_105 (y + 1) (by omega) (by omega) hpl hct
      refine j_iload_n EE 0 dX10_goesOn_89 rfl rfl ?_
      refine j_aload_n EE 2 dX10_goesOn_90 rfl rfl ?_
      refine j_get (T := TX10) EE iw_X10_goesOn_X10 0 rfl rfl 0 (by decide) lk_X10_goesOn_7 rfl dX10_goesOn_91 ?_
      refine j_iconst (v := nI 0) EE dX10_goesOn_94 (by decide) ?_
      refine j_iald EE 1 0 rfl rfl (vp_in_nI (n := 0) (by omega) (by decide)) dX10_goesOn_95 ?_
      refine j_topE (congrArg (sA F) (nI_clamp (n := 0) (by omega))) ?_
      refine j_topE (y := nI (F 0)) (sA_n (by omega)) ?_
      refine j_icmp_ge EE 147 dX10_goesOn_96 (by decide) (fun c96 => ?_) (fun c96 => ?_)
      · skip
        have n96 : (F 0) ≤ p := (nI_leI (a := (F 0)) (b := p) (by have := hFb 0; omega) (by have := hFb 0; omega)).mp c96
        refine j_aload_n EE 2 dX10_goesOn_147 rfl rfl ?_
        refine j_dup EE rfl dX10_goesOn_148 ?_
        refine j_get (T := TX10) EE iw_X10_goesOn_X10 0 rfl rfl 9 (by decide) lk_X10_goesOn_135 rfl dX10_goesOn_149 ?_
        refine j_iload_n EE 1 dX10_goesOn_152 rfl rfl ?_
        refine j_if_eq EE 160 dX10_goesOn_153 (by decide) (fun c153 => ?_) (fun c153 => ?_)
        · skip
          have n153 : (b2n (chM F B (F 0) 0)) = 0 := (nI_eq (a := (b2n (chM F B (F 0) 0))) (b := 0) (by have := b2n_lt (chM F B (F 0) 0); omega) (by have := b2n_lt (chM F B (F 0) 0); omega)).mp c153
          refine j_iconst (v := nI 0) EE dX10_goesOn_160 (by decide) ?_
          refine j_iadd EE dX10_goesOn_161 ?_
          refine j_topE (nI_add ro 0) ?_
          refine j_put (T := TX10) (ws' := [((h 0), .inr (6, [.ref ((h 1)), .ref ((h 2)), .ref ((h 3)), .int (nI km), .ref ((h 4)), .int (nI le), .int (nI sp), .ref ((h 5)), .ref ((h 6)), .int (nI (ro + 0)), .ref ((h 7)), .ref ((h 8)), .ref ((h 9)), .ref ((h 10)), .ref ((h 11)), .ref ((h 12)), .ref ((h 13))])), ((h 1), .inl (cI, 99, .inl (sA F))), ((h 2), .inl (cI, 99, .inl fr)), ((h 3), .inl (cI, 594, .inl (kA Q))), ((h 4), .inl (cI, 200, .inl (fun zz => nI (ft zz)))), ((h 5), .inl (cI, 12, .inl (fun zz => nI ((stM F B p 0) zz)))), ((h 6), .inl (cI, 12, .inl (fun zz => nI ((thM F B Bt (F 0) 0) zz)))), ((h 7), .inl (cJ, 16, .inr (.inl W))), ((h 8), .inl (cJ, 16, .inr (.inl M))), ((h 9), .inl (cI, 9, .inl (fun zz => nI (a1 zz)))), ((h 10), .inl (cI, 9, .inl (fun zz => nI (a2 zz)))), ((h 11), .inl (cI, 198, .inl (fun zz => nI (a3 zz)))), ((h 12), .inl (cI, 9, .inl (fun zz => nI (a4 zz)))), ((h 13), .inl (cI, 9, .inl (fA a5)))]) EE iw_X10_goesOn_X10 tyX10 tyX10_ok nmX10 0 rfl rfl 9 (by decide) lk_X10_goesOn_135 rfl rfl rfl (Nat.le_of_ble_eq_true rfl) rfl dX10_goesOn_162 ?_
          refine j_iload_n EE 1 dX10_goesOn_165 rfl rfl ?_
          exact j_zret EE FF (by have hb9 := b2n_lt (chM F B (F 0) 0); rcases (show b2n (chM F B (F 0) 0) = 0 ∨ b2n (chM F B (F 0) 0) = 1 by omega) with hz | hz <;> rw [hz] <;> decide) dX10_goesOn_166 () trivial rfl (by first | (rw [if_pos (b2n_ne0 n153), b2n_ne0 n153, show p = F 0 by have := b2n_ne0 n153; omega]; rfl) | (rw [if_neg (by rw [b2n_0 n153]; decide), b2n_0 n153, show p = 0 by have h9 := b2n_0 n153; rcases hc0 with hz | hz; (rw [hz] at h9; cases h9); exact hz, stM_0]; rfl))
        · skip
          have n153 : (b2n (chM F B (F 0) 0)) ≠ 0 := fun hq => c153 ((nI_eq (a := (b2n (chM F B (F 0) 0))) (b := 0) (by have := b2n_lt (chM F B (F 0) 0); omega) (by have := b2n_lt (chM F B (F 0) 0); omega)).mpr hq)
          refine j_iconst (v := nI 1) EE dX10_goesOn_156 (by decide) ?_
          refine j_goto EE 161 dX10_goesOn_157 (by decide) ?_
          refine j_iadd EE dX10_goesOn_161 ?_
          refine j_topE (nI_add ro 1) ?_
          refine j_put (T := TX10) (ws' := [((h 0), .inr (6, [.ref ((h 1)), .ref ((h 2)), .ref ((h 3)), .int (nI km), .ref ((h 4)), .int (nI le), .int (nI sp), .ref ((h 5)), .ref ((h 6)), .int (nI (ro + 1)), .ref ((h 7)), .ref ((h 8)), .ref ((h 9)), .ref ((h 10)), .ref ((h 11)), .ref ((h 12)), .ref ((h 13))])), ((h 1), .inl (cI, 99, .inl (sA F))), ((h 2), .inl (cI, 99, .inl fr)), ((h 3), .inl (cI, 594, .inl (kA Q))), ((h 4), .inl (cI, 200, .inl (fun zz => nI (ft zz)))), ((h 5), .inl (cI, 12, .inl (fun zz => nI ((stM F B p 0) zz)))), ((h 6), .inl (cI, 12, .inl (fun zz => nI ((thM F B Bt (F 0) 0) zz)))), ((h 7), .inl (cJ, 16, .inr (.inl W))), ((h 8), .inl (cJ, 16, .inr (.inl M))), ((h 9), .inl (cI, 9, .inl (fun zz => nI (a1 zz)))), ((h 10), .inl (cI, 9, .inl (fun zz => nI (a2 zz)))), ((h 11), .inl (cI, 198, .inl (fun zz => nI (a3 zz)))), ((h 12), .inl (cI, 9, .inl (fun zz => nI (a4 zz)))), ((h 13), .inl (cI, 9, .inl (fA a5)))]) EE iw_X10_goesOn_X10 tyX10 tyX10_ok nmX10 0 rfl rfl 9 (by decide) lk_X10_goesOn_135 rfl rfl rfl (Nat.le_of_ble_eq_true rfl) rfl dX10_goesOn_162 ?_
          refine j_iload_n EE 1 dX10_goesOn_165 rfl rfl ?_
          exact j_zret EE FF (by have hb9 := b2n_lt (chM F B (F 0) 0); rcases (show b2n (chM F B (F 0) 0) = 0 ∨ b2n (chM F B (F 0) 0) = 1 by omega) with hz | hz <;> rw [hz] <;> decide) dX10_goesOn_166 () trivial rfl (by first | (rw [if_pos (b2n_ne0 n153), b2n_ne0 n153, show p = F 0 by have := b2n_ne0 n153; omega]; rfl) | (rw [if_neg (by rw [b2n_0 n153]; decide), b2n_0 n153, show p = 0 by have h9 := b2n_0 n153; rcases hc0 with hz | hz; (rw [hz] at h9; cases h9); exact hz, stM_0]; rfl))
      · skip
        have n96 : ¬ (F 0) ≤ p := fun hq => c96 ((nI_leI (a := (F 0)) (b := p) (by have := hFb 0; omega) (by have := hFb 0; omega)).mpr hq)
        refine j_iload_n EE 1 dX10_goesOn_99 rfl rfl ?_
        refine j_if_eq EE 147 dX10_goesOn_100 (by decide) (fun c100 => ?_) (fun c100 => ?_)
        · skip
          have n100 : (b2n (chM F B (F 0) 0)) = 0 := (nI_eq (a := (b2n (chM F B (F 0) 0))) (b := 0) (by have := b2n_lt (chM F B (F 0) 0); omega) (by have := b2n_lt (chM F B (F 0) 0); omega)).mp c100
          refine j_aload_n EE 2 dX10_goesOn_147 rfl rfl ?_
          refine j_dup EE rfl dX10_goesOn_148 ?_
          refine j_get (T := TX10) EE iw_X10_goesOn_X10 0 rfl rfl 9 (by decide) lk_X10_goesOn_135 rfl dX10_goesOn_149 ?_
          refine j_iload_n EE 1 dX10_goesOn_152 rfl rfl ?_
          refine j_if_eq EE 160 dX10_goesOn_153 (by decide) (fun c153 => ?_) (fun c153 => ?_)
          · skip
            have n153 : (b2n (chM F B (F 0) 0)) = 0 := (nI_eq (a := (b2n (chM F B (F 0) 0))) (b := 0) (by have := b2n_lt (chM F B (F 0) 0); omega) (by have := b2n_lt (chM F B (F 0) 0); omega)).mp c153
            refine j_iconst (v := nI 0) EE dX10_goesOn_160 (by decide) ?_
            refine j_iadd EE dX10_goesOn_161 ?_
            refine j_topE (nI_add ro 0) ?_
            refine j_put (T := TX10) (ws' := [((h 0), .inr (6, [.ref ((h 1)), .ref ((h 2)), .ref ((h 3)), .int (nI km), .ref ((h 4)), .int (nI le), .int (nI sp), .ref ((h 5)), .ref ((h 6)), .int (nI (ro + 0)), .ref ((h 7)), .ref ((h 8)), .ref ((h 9)), .ref ((h 10)), .ref ((h 11)), .ref ((h 12)), .ref ((h 13))])), ((h 1), .inl (cI, 99, .inl (sA F))), ((h 2), .inl (cI, 99, .inl fr)), ((h 3), .inl (cI, 594, .inl (kA Q))), ((h 4), .inl (cI, 200, .inl (fun zz => nI (ft zz)))), ((h 5), .inl (cI, 12, .inl (fun zz => nI ((stM F B p 0) zz)))), ((h 6), .inl (cI, 12, .inl (fun zz => nI ((thM F B Bt (F 0) 0) zz)))), ((h 7), .inl (cJ, 16, .inr (.inl W))), ((h 8), .inl (cJ, 16, .inr (.inl M))), ((h 9), .inl (cI, 9, .inl (fun zz => nI (a1 zz)))), ((h 10), .inl (cI, 9, .inl (fun zz => nI (a2 zz)))), ((h 11), .inl (cI, 198, .inl (fun zz => nI (a3 zz)))), ((h 12), .inl (cI, 9, .inl (fun zz => nI (a4 zz)))), ((h 13), .inl (cI, 9, .inl (fA a5)))]) EE iw_X10_goesOn_X10 tyX10 tyX10_ok nmX10 0 rfl rfl 9 (by decide) lk_X10_goesOn_135 rfl rfl rfl (Nat.le_of_ble_eq_true rfl) rfl dX10_goesOn_162 ?_
            refine j_iload_n EE 1 dX10_goesOn_165 rfl rfl ?_
            exact j_zret EE FF (by have hb9 := b2n_lt (chM F B (F 0) 0); rcases (show b2n (chM F B (F 0) 0) = 0 ∨ b2n (chM F B (F 0) 0) = 1 by omega) with hz | hz <;> rw [hz] <;> decide) dX10_goesOn_166 () trivial rfl (by first | (rw [if_pos (b2n_ne0 n153), b2n_ne0 n153, show p = F 0 by have := b2n_ne0 n153; omega]; rfl) | (rw [if_neg (by rw [b2n_0 n153]; decide), b2n_0 n153, show p = 0 by have h9 := b2n_0 n153; rcases hc0 with hz | hz; (rw [hz] at h9; cases h9); exact hz, stM_0]; rfl))
          · skip
            have n153 : (b2n (chM F B (F 0) 0)) ≠ 0 := fun hq => c153 ((nI_eq (a := (b2n (chM F B (F 0) 0))) (b := 0) (by have := b2n_lt (chM F B (F 0) 0); omega) (by have := b2n_lt (chM F B (F 0) 0); omega)).mpr hq)
            refine j_iconst (v := nI 1) EE dX10_goesOn_156 (by decide) ?_
            refine j_goto EE 161 dX10_goesOn_157 (by decide) ?_
            refine j_iadd EE dX10_goesOn_161 ?_
            refine j_topE (nI_add ro 1) ?_
            refine j_put (T := TX10) (ws' := [((h 0), .inr (6, [.ref ((h 1)), .ref ((h 2)), .ref ((h 3)), .int (nI km), .ref ((h 4)), .int (nI le), .int (nI sp), .ref ((h 5)), .ref ((h 6)), .int (nI (ro + 1)), .ref ((h 7)), .ref ((h 8)), .ref ((h 9)), .ref ((h 10)), .ref ((h 11)), .ref ((h 12)), .ref ((h 13))])), ((h 1), .inl (cI, 99, .inl (sA F))), ((h 2), .inl (cI, 99, .inl fr)), ((h 3), .inl (cI, 594, .inl (kA Q))), ((h 4), .inl (cI, 200, .inl (fun zz => nI (ft zz)))), ((h 5), .inl (cI, 12, .inl (fun zz => nI ((stM F B p 0) zz)))), ((h 6), .inl (cI, 12, .inl (fun zz => nI ((thM F B Bt (F 0) 0) zz)))), ((h 7), .inl (cJ, 16, .inr (.inl W))), ((h 8), .inl (cJ, 16, .inr (.inl M))), ((h 9), .inl (cI, 9, .inl (fun zz => nI (a1 zz)))), ((h 10), .inl (cI, 9, .inl (fun zz => nI (a2 zz)))), ((h 11), .inl (cI, 198, .inl (fun zz => nI (a3 zz)))), ((h 12), .inl (cI, 9, .inl (fun zz => nI (a4 zz)))), ((h 13), .inl (cI, 9, .inl (fA a5)))]) EE iw_X10_goesOn_X10 tyX10 tyX10_ok nmX10 0 rfl rfl 9 (by decide) lk_X10_goesOn_135 rfl rfl rfl (Nat.le_of_ble_eq_true rfl) rfl dX10_goesOn_162 ?_
            refine j_iload_n EE 1 dX10_goesOn_165 rfl rfl ?_
            exact j_zret EE FF (by have hb9 := b2n_lt (chM F B (F 0) 0); rcases (show b2n (chM F B (F 0) 0) = 0 ∨ b2n (chM F B (F 0) 0) = 1 by omega) with hz | hz <;> rw [hz] <;> decide) dX10_goesOn_166 () trivial rfl (by first | (rw [if_pos (b2n_ne0 n153), b2n_ne0 n153, show p = F 0 by have := b2n_ne0 n153; omega]; rfl) | (rw [if_neg (by rw [b2n_0 n153]; decide), b2n_0 n153, show p = 0 by have h9 := b2n_0 n153; rcases hc0 with hz | hz; (rw [hz] at h9; cases h9); exact hz, stM_0]; rfl))
        · skip
          have n100 : (b2n (chM F B (F 0) 0)) ≠ 0 := fun hq => c100 ((nI_eq (a := (b2n (chM F B (F 0) 0))) (b := 0) (by have := b2n_lt (chM F B (F 0) 0); omega) (by have := b2n_lt (chM F B (F 0) 0); omega)).mpr hq)
          refine j_iconst (v := nI 0) EE dX10_goesOn_103 (by decide) ?_
          refine j_istore_n EE [(3, _), (2, _), (1, _), (0, _)] dX10_goesOn_104 rfl (Nat.lt_of_lt_of_eq (by decide) hL.symm) rfl ?_
          exact Lp_105 _ 0 (Nat.lt_succ_self _) (by omega) (by omega) (b2n_ne0 n100)
  have Lp_4 : ∀ (nf : Nat), ∀ (p : Nat), 4 - p < nf → (p ≤ F 0) → J l (rmD (4)) D ε [((h 0), .inr (6, [.ref ((h 1)), .ref ((h 2)), .ref ((h 3)), .int (nI km), .ref ((h 4)), .int (nI le), .int (nI sp), .ref ((h 5)), .ref ((h 6)), .int (nI ro), .ref ((h 7)), .ref ((h 8)), .ref ((h 9)), .ref ((h 10)), .ref ((h 11)), .ref ((h 12)), .ref ((h 13))])), ((h 1), .inl (cI, 99, .inl (sA F))), ((h 2), .inl (cI, 99, .inl fr)), ((h 3), .inl (cI, 594, .inl (kA Q))), ((h 4), .inl (cI, 200, .inl (fun zz => nI (ft zz)))), ((h 5), .inl (cI, 12, .inl (fun zz => nI (B zz)))), ((h 6), .inl (cI, 12, .inl (fun zz => nI ((thM F B Bt p 0) zz)))), ((h 7), .inl (cJ, 16, .inr (.inl W))), ((h 8), .inl (cJ, 16, .inr (.inl M))), ((h 9), .inl (cI, 9, .inl (fun zz => nI (a1 zz)))), ((h 10), .inl (cI, 9, .inl (fun zz => nI (a2 zz)))), ((h 11), .inl (cI, 198, .inl (fun zz => nI (a3 zz)))), ((h 12), .inl (cI, 9, .inl (fun zz => nI (a4 zz)))), ((h 13), .inl (cI, 9, .inl (fA a5)))] 4 [(2, .int (nI p)), (1, .int (nI (b2n (chM F B p 0)))), (0, .ref ((h 0)))] [] := by
    intro nf
    induction nf with
    | zero => intro p hm; exact absurd hm (Nat.not_lt_zero _)
    | succ nf ihp_4 =>
      intro p hm4 hp
      have Lp_16 : ∀ (nf : Nat), ∀ (y : Nat), 4 - y < nf → (y ≤ F 1) → (p < F 0) → J l (rmD (4)) D ε [((h 0), .inr (6, [.ref ((h 1)), .ref ((h 2)), .ref ((h 3)), .int (nI km), .ref ((h 4)), .int (nI le), .int (nI sp), .ref ((h 5)), .ref ((h 6)), .int (nI ro), .ref ((h 7)), .ref ((h 8)), .ref ((h 9)), .ref ((h 10)), .ref ((h 11)), .ref ((h 12)), .ref ((h 13))])), ((h 1), .inl (cI, 99, .inl (sA F))), ((h 2), .inl (cI, 99, .inl fr)), ((h 3), .inl (cI, 594, .inl (kA Q))), ((h 4), .inl (cI, 200, .inl (fun zz => nI (ft zz)))), ((h 5), .inl (cI, 12, .inl (fun zz => nI (B zz)))), ((h 6), .inl (cI, 12, .inl (fun zz => nI ((thM F B Bt p y) zz)))), ((h 7), .inl (cJ, 16, .inr (.inl W))), ((h 8), .inl (cJ, 16, .inr (.inl M))), ((h 9), .inl (cI, 9, .inl (fun zz => nI (a1 zz)))), ((h 10), .inl (cI, 9, .inl (fun zz => nI (a2 zz)))), ((h 11), .inl (cI, 198, .inl (fun zz => nI (a3 zz)))), ((h 12), .inl (cI, 9, .inl (fun zz => nI (a4 zz)))), ((h 13), .inl (cI, 9, .inl (fA a5)))] 16 [(3, .int (nI y)), (2, .int (nI p)), (1, .int (nI (b2n (chM F B p y)))), (0, .ref ((h 0)))] [] := by
        intro nf
        induction nf with
        | zero => intro y hm; exact absurd hm (Nat.not_lt_zero _)
        | succ nf ihp_16 =>
          intro y hm16 hy hpl
          refine j_iload_n EE 0 dX10_goesOn_16 rfl rfl ?_
          refine j_aload_n EE 3 dX10_goesOn_17 rfl rfl ?_
          refine j_get (T := TX10) EE iw_X10_goesOn_X10 0 rfl rfl 0 (by decide) lk_X10_goesOn_7 rfl dX10_goesOn_18 ?_
          refine j_iconst (v := nI 1) EE dX10_goesOn_21 (by decide) ?_
          refine j_iald EE 1 0 rfl rfl (vp_in_nI (n := 1) (by omega) (by decide)) dX10_goesOn_22 ?_
          refine j_topE (congrArg (sA F) (nI_clamp (n := 1) (by omega))) ?_
          refine j_topE (y := nI (F 1)) (sA_n (by omega)) ?_
          refine j_icmp_ge EE 81 dX10_goesOn_23 (by decide) (fun c23 => ?_) (fun c23 => ?_)
          · skip
            have n23 : (F 1) ≤ y := (nI_leI (a := (F 1)) (b := y) (by have := hFb 1; omega) (by have := hFb 1; omega)).mp c23
            refine j_iinc (v := nI (p + 1)) EE 1 [(2, .int (nI (p + 1))), (3, _), (1, _), (0, _)] dX10_goesOn_81 rfl (nI_1 p) (Nat.lt_of_lt_of_eq (by decide) hL.symm) rfl ?_
            refine j_goto EE 4 dX10_goesOn_84 (by decide) ?_
            refine j_lv [0, 2, 3] rfl ?_
            rw [show y = F 1 by omega, thM_r, chM_r]
            exact ihp_4 (p + 1) (by omega) (by omega)
          · skip
            have n23 : ¬ (F 1) ≤ y := fun hq => c23 ((nI_leI (a := (F 1)) (b := y) (by have := hFb 1; omega) (by have := hFb 1; omega)).mpr hq)
            refine j_aload_n EE 3 dX10_goesOn_26 rfl rfl ?_
            refine j_get (T := TX10) EE iw_X10_goesOn_X10 0 rfl rfl 8 (by decide) lk_X10_goesOn_25 rfl dX10_goesOn_27 ?_
            refine j_iconst (v := nI 3) EE dX10_goesOn_30 (by decide) ?_
            refine j_iload_n EE 1 dX10_goesOn_31 rfl rfl ?_
            refine j_imul EE dX10_goesOn_32 ?_
            refine j_topE (pk_mul 3 p) ?_
            refine j_iload_n EE 0 dX10_goesOn_33 rfl rfl ?_
            refine j_iadd EE dX10_goesOn_34 ?_
            refine j_topE (nI_add (3 * p) y) ?_
            refine j_aload_n EE 3 dX10_goesOn_35 rfl rfl ?_
            refine j_iload_n EE 1 dX10_goesOn_36 rfl rfl ?_
            refine j_iload_n EE 0 dX10_goesOn_37 rfl rfl ?_
            refine j_V2 (n9 := 14) EE (c_X10_familyThen h F Q ft B (thM F B Bt p y) a1 a2 a3 a4 a5 fr W M km le sp ro p y hFb (by omega) (by omega) hn hru ht ho hB) gX10_goesOn_X10_familyThen ⟨rfl, hd_X10_familyThen⟩ rfl ⟨rfl, rfl⟩ ⟨by decide, by decide⟩ rfl [0, 1, 2, 3, 4, 5, 6, 7, 8, 9, 10, 11, 12, 13] rfl [] [((h 0), .inr (6, [.ref ((h 1)), .ref ((h 2)), .ref ((h 3)), .int (nI km), .ref ((h 4)), .int (nI le), .int (nI sp), .ref ((h 5)), .ref ((h 6)), .int (nI ro), .ref ((h 7)), .ref ((h 8)), .ref ((h 9)), .ref ((h 10)), .ref ((h 11)), .ref ((h 12)), .ref ((h 13))])), ((h 1), .inl (cI, 99, .inl (sA F))), ((h 2), .inl (cI, 99, .inl fr)), ((h 3), .inl (cI, 594, .inl (kA Q))), ((h 4), .inl (cI, 200, .inl (fun zz => nI (ft zz)))), ((h 5), .inl (cI, 12, .inl (fun zz => nI (B zz)))), ((h 6), .inl (cI, 12, .inl (fun zz => nI ((thM F B Bt p y) zz)))), ((h 7), .inl (cJ, 16, .inr (.inl W))), ((h 8), .inl (cJ, 16, .inr (.inl M))), ((h 9), .inl (cI, 9, .inl (fun zz => nI (a1 zz)))), ((h 10), .inl (cI, 9, .inl (fun zz => nI (a2 zz)))), ((h 11), .inl (cI, 198, .inl (fun zz => nI (a3 zz)))), ((h 12), .inl (cI, 9, .inl (fun zz => nI (a4 zz)))), ((h 13), .inl (cI, 9, .inl (fA a5)))] (fun _ => rfl) [] [(h 0), (h 1), (h 2), (h 3), (h 4), (h 5), (h 6), (h 7), (h 8), (h 9), (h 10), (h 11), (h 12), (h 13)] rfl rfl rfl rfl rfl (by decide) (by decide) 0 rfl rfl rfl (Nat.le_of_ble_eq_true rfl) dX10_goesOn_38 (fun u_38 h_38 => ?_) rfl
            show J l _ D ε _ _ _ (.int (nI (ftM F B p y)) :: _)
            refine j_iast (ws' := [((h 0), .inr (6, [.ref ((h 1)), .ref ((h 2)), .ref ((h 3)), .int (nI km), .ref ((h 4)), .int (nI le), .int (nI sp), .ref ((h 5)), .ref ((h 6)), .int (nI ro), .ref ((h 7)), .ref ((h 8)), .ref ((h 9)), .ref ((h 10)), .ref ((h 11)), .ref ((h 12)), .ref ((h 13))])), ((h 1), .inl (cI, 99, .inl (sA F))), ((h 2), .inl (cI, 99, .inl fr)), ((h 3), .inl (cI, 594, .inl (kA Q))), ((h 4), .inl (cI, 200, .inl (fun zz => nI (ft zz)))), ((h 5), .inl (cI, 12, .inl (fun zz => nI (B zz)))), ((h 6), .inl (cI, 12, .inl (fun zz => nI ((thM F B Bt p (y + 1)) zz)))), ((h 7), .inl (cJ, 16, .inr (.inl W))), ((h 8), .inl (cJ, 16, .inr (.inl M))), ((h 9), .inl (cI, 9, .inl (fun zz => nI (a1 zz)))), ((h 10), .inl (cI, 9, .inl (fun zz => nI (a2 zz)))), ((h 11), .inl (cI, 198, .inl (fun zz => nI (a3 zz)))), ((h 12), .inl (cI, 9, .inl (fun zz => nI (a4 zz)))), ((h 13), .inl (cI, 9, .inl (fA a5)))]) EE 6 0 rfl rfl (vp_in_nI (n := (3 * p) + y) (by omega) (by decide)) (by rw [nI_clamp (by omega), upd_N, thM_s (by omega) hY]; rfl) dX10_goesOn_41 ?_
            refine j_iload_n EE 2 dX10_goesOn_42 rfl rfl ?_
            refine j_if_ne EE 69 dX10_goesOn_43 (by decide) (fun c43 => ?_) (fun c43 => ?_)
            · skip
              have n43 : (b2n (chM F B p y)) ≠ 0 := fun hq => c43 ((nI_eq (a := (b2n (chM F B p y))) (b := 0) (by have := b2n_lt (chM F B p y); omega) (by have := b2n_lt (chM F B p y); omega)).mpr hq)
              refine j_iconst (v := nI 1) EE dX10_goesOn_69 (by decide) ?_
              refine j_goto EE 74 dX10_goesOn_70 (by decide) ?_
              refine j_istore_n EE [(1, _), (3, _), (2, _), (0, _)] dX10_goesOn_74 rfl (Nat.lt_of_lt_of_eq (by decide) hL.symm) rfl ?_
              refine j_iinc (v := nI (y + 1)) EE 1 [(3, .int (nI (y + 1))), (1, _), (2, _), (0, _)] dX10_goesOn_75 rfl (nI_1 y) (Nat.lt_of_lt_of_eq (by decide) hL.symm) rfl ?_
              refine j_goto EE 16 dX10_goesOn_78 (by decide) ?_
              refine j_lv [0, 2, 1, 3] rfl ?_
              first | rw [show nI 1 = nI (b2n (chM F B p (y + 1))) by rw [chM_t (b2n_ne0 n43)]; rfl] | rw [show nI 1 = nI (b2n (chM F B p (y + 1))) by rw [chM_n (by omega) hY (by omega) n66]; rfl] | rw [show nI 0 = nI (b2n (chM F B p (y + 1))) by rw [chM_k (by omega) hY (b2n_0 n43) n66]; rfl]
              exact ihp_16 (y + 1) (by omega) (by omega) hpl
            · skip
              have n43 : (b2n (chM F B p y)) = 0 := (nI_eq (a := (b2n (chM F B p y))) (b := 0) (by have := b2n_lt (chM F B p y); omega) (by have := b2n_lt (chM F B p y); omega)).mp c43
              refine j_aload_n EE 3 dX10_goesOn_46 rfl rfl ?_
              refine j_get (T := TX10) EE iw_X10_goesOn_X10 0 rfl rfl 8 (by decide) lk_X10_goesOn_25 rfl dX10_goesOn_47 ?_
              refine j_iconst (v := nI 3) EE dX10_goesOn_50 (by decide) ?_
              refine j_iload_n EE 1 dX10_goesOn_51 rfl rfl ?_
              refine j_imul EE dX10_goesOn_52 ?_
              refine j_topE (pk_mul 3 p) ?_
              refine j_iload_n EE 0 dX10_goesOn_53 rfl rfl ?_
              refine j_iadd EE dX10_goesOn_54 ?_
              refine j_topE (nI_add (3 * p) y) ?_
              refine j_iald EE 6 0 rfl rfl (vp_in_nI (n := (3 * p) + y) (by omega) (by decide)) dX10_goesOn_55 ?_
              refine j_topE (congrArg (fun zz => nI ((thM F B Bt p (y + 1)) zz)) (nI_clamp (n := (3 * p) + y) (by omega))) ?_
              refine j_topE (y := nI (ftM F B p y)) (by show nI (thM F B Bt p (y + 1) (3 * p + y)) = _; unfold thM; rw [if_pos (by omega), show (3 * p + y) / 3 = p by omega, show (3 * p + y) % 3 = y by omega]) ?_
              refine j_aload_n EE 3 dX10_goesOn_56 rfl rfl ?_
              refine j_get (T := TX10) EE iw_X10_goesOn_X10 0 rfl rfl 7 (by decide) lk_X10_goesOn_22 rfl dX10_goesOn_57 ?_
              refine j_iconst (v := nI 3) EE dX10_goesOn_60 (by decide) ?_
              refine j_iload_n EE 1 dX10_goesOn_61 rfl rfl ?_
              refine j_imul EE dX10_goesOn_62 ?_
              refine j_topE (pk_mul 3 p) ?_
              refine j_iload_n EE 0 dX10_goesOn_63 rfl rfl ?_
              refine j_iadd EE dX10_goesOn_64 ?_
              refine j_topE (nI_add (3 * p) y) ?_
              refine j_iald EE 5 0 rfl rfl (vp_in_nI (n := (3 * p) + y) (by omega) (by decide)) dX10_goesOn_65 ?_
              refine j_topE (congrArg (fun zz => nI (B zz)) (nI_clamp (n := (3 * p) + y) (by omega))) ?_
              refine j_topE (y := nI (B ((3 * p) + y))) rfl ?_
              refine j_icmp_eq EE 73 dX10_goesOn_66 (by decide) (fun c66 => ?_) (fun c66 => ?_)
              · skip
                have n66 : (ftM F B p y) = (B ((3 * p) + y)) := (nI_eq (a := (ftM F B p y)) (b := (B ((3 * p) + y))) (by have := ftM_lt (F := F) (B := B) (p := p) (y := y) hru hB; have := hB ((3 * p) + y); omega) (by have := ftM_lt (F := F) (B := B) (p := p) (y := y) hru hB; have := hB ((3 * p) + y); omega)).mp c66
                refine j_iconst (v := nI 0) EE dX10_goesOn_73 (by decide) ?_
                refine j_istore_n EE [(1, _), (3, _), (2, _), (0, _)] dX10_goesOn_74 rfl (Nat.lt_of_lt_of_eq (by decide) hL.symm) rfl ?_
                refine j_iinc (v := nI (y + 1)) EE 1 [(3, .int (nI (y + 1))), (1, _), (2, _), (0, _)] dX10_goesOn_75 rfl (nI_1 y) (Nat.lt_of_lt_of_eq (by decide) hL.symm) rfl ?_
                refine j_goto EE 16 dX10_goesOn_78 (by decide) ?_
                refine j_lv [0, 2, 1, 3] rfl ?_
                first | rw [show nI 1 = nI (b2n (chM F B p (y + 1))) by rw [chM_t (b2n_ne0 n43)]; rfl] | rw [show nI 1 = nI (b2n (chM F B p (y + 1))) by rw [chM_n (by omega) hY (by omega) n66]; rfl] | rw [show nI 0 = nI (b2n (chM F B p (y + 1))) by rw [chM_k (by omega) hY (b2n_0 n43) n66]; rfl]
                exact ihp_16 (y + 1) (by omega) (by omega) hpl
              · skip
                have n66 : (ftM F B p y) ≠ (B ((3 * p) + y)) := fun hq => c66 ((nI_eq (a := (ftM F B p y)) (b := (B ((3 * p) + y))) (by have := ftM_lt (F := F) (B := B) (p := p) (y := y) hru hB; have := hB ((3 * p) + y); omega) (by have := ftM_lt (F := F) (B := B) (p := p) (y := y) hru hB; have := hB ((3 * p) + y); omega)).mpr hq)
                refine j_iconst (v := nI 1) EE dX10_goesOn_69 (by decide) ?_
                refine j_goto EE 74 dX10_goesOn_70 (by decide) ?_
                refine j_istore_n EE [(1, _), (3, _), (2, _), (0, _)] dX10_goesOn_74 rfl (Nat.lt_of_lt_of_eq (by decide) hL.symm) rfl ?_
                refine j_iinc (v := nI (y + 1)) EE 1 [(3, .int (nI (y + 1))), (1, _), (2, _), (0, _)] dX10_goesOn_75 rfl (nI_1 y) (Nat.lt_of_lt_of_eq (by decide) hL.symm) rfl ?_
                refine j_goto EE 16 dX10_goesOn_78 (by decide) ?_
                refine j_lv [0, 2, 1, 3] rfl ?_
                first | rw [show nI 1 = nI (b2n (chM F B p (y + 1))) by rw [chM_t (b2n_ne0 n43)]; rfl] | rw [show nI 1 = nI (b2n (chM F B p (y + 1))) by rw [chM_n (by omega) hY (by omega) n66]; rfl] | rw [show nI 0 = nI (b2n (chM F B p (y + 1))) by rw [chM_k (by omega) hY (b2n_0 n43) n66]; rfl]
                exact ihp_16 (y + 1) (by omega) (by omega) hpl
      refine j_iload_n EE 0 dX10_goesOn_4 rfl rfl ?_
      refine j_aload_n EE 2 dX10_goesOn_5 rfl rfl ?_
      refine j_get (T := TX10) EE iw_X10_goesOn_X10 0 rfl rfl 0 (by decide) lk_X10_goesOn_7 rfl dX10_goesOn_6 ?_
      refine j_iconst (v := nI 0) EE dX10_goesOn_9 (by decide) ?_
      refine j_iald EE 1 0 rfl rfl (vp_in_nI (n := 0) (by omega) (by decide)) dX10_goesOn_10 ?_
      refine j_topE (congrArg (sA F) (nI_clamp (n := 0) (by omega))) ?_
      refine j_topE (y := nI (F 0)) (sA_n (by omega)) ?_
      refine j_icmp_ge EE 87 dX10_goesOn_11 (by decide) (fun c11 => ?_) (fun c11 => ?_)
      · skip
        have n11 : (F 0) ≤ p := (nI_leI (a := (F 0)) (b := p) (by have := hFb 0; omega) (by have := hFb 0; omega)).mp c11
        refine j_iconst (v := nI 0) EE dX10_goesOn_87 (by decide) ?_
        refine j_istore_n EE [(2, _), (1, _), (0, _)] dX10_goesOn_88 rfl (Nat.lt_of_lt_of_eq (by decide) hL.symm) rfl ?_
        rw [show p = F 0 by omega]
        have hx9 := Lp_89 _ 0 (Nat.lt_succ_self _) (by omega) (Or.inr rfl)
        rw [stM_0] at hx9
        exact hx9
      · skip
        have n11 : ¬ (F 0) ≤ p := fun hq => c11 ((nI_leI (a := (F 0)) (b := p) (by have := hFb 0; omega) (by have := hFb 0; omega)).mpr hq)
        refine j_iconst (v := nI 0) EE dX10_goesOn_14 (by decide) ?_
        refine j_istore_n EE [(3, _), (2, _), (1, _), (0, _)] dX10_goesOn_15 rfl (Nat.lt_of_lt_of_eq (by decide) hL.symm) rfl ?_
        exact Lp_16 _ 0 (Nat.lt_succ_self _) (by omega) (by omega)
  refine j_iconst (v := nI 0) EE dX10_goesOn_0 (by decide) ?_
  refine j_istore_n EE [(1, _), (0, _)] dX10_goesOn_1 rfl (Nat.lt_of_lt_of_eq (by decide) hL.symm) rfl ?_
  refine j_iconst (v := nI 0) EE dX10_goesOn_2 (by decide) ?_
  refine j_istore_n EE [(2, _), (1, _), (0, _)] dX10_goesOn_3 rfl (Nat.lt_of_lt_of_eq (by decide) hL.symm) rfl ?_
  have hx9 := Lp_4 _ 0 (Nat.lt_succ_self _) (by omega)
  rw [thM_0, chM_0] at hx9
  exact hx9

end G_43_mod4
