section G_24_text
variable {l : Launch} {D : va_G} {cI cC cJ cG : ClassId}

theorem nar_c {c : Nat} (h : c < 65536) : vp_nar .char (nI c) = nI c := by
  unfold vp_nar
  rw [(pk_charN h).1]
theorem nI_p1 (n : Nat) : nI (n + 1) - nI 1 = nI n := by
  rw [pk_sub (by omega)]; congr 1
abbrev DS : Type := Nat × Nat × Nat × Nat × Nat × (Nat → Nat)
def numT (T : Nat → Nat) (a i : Nat) : Nat := T (a + 1 + 2 * i) - 48
def ruV (T : Nat → Nat) (a m j : Nat) : Nat := if j < m then numT T a j + 1 else 0
def szs (T : Nat → Nat) (a : Nat) (d : DS) : Option DS := if 1 ≤ numT T a 0 ∧ numT T a 0 ≤ 4 ∧ 1 ≤ numT T a 1 ∧ numT T a 1 ≤ 3 then some (numT T a 0, numT T a 1, d.2.2) else none
def mrk (T : Nat → Nat) (a : Nat) (d : DS) : Option DS := if numT T a 0 < d.1 then some (if T a = 111 then (d.1, d.2.1, wbit d.2.2.1 (numT T a 0) 1, d.2.2.2) else (d.1, d.2.1, d.2.2.1, wbit d.2.2.2.1 (numT T a 0) 1, d.2.2.2.2)) else none
def rul (T : Nat → Nat) (a m : Nat) (d : DS) : Option DS := if numT T a 0 < d.1 ∧ numT T a 1 < d.2.1 ∧ numT T a 2 < d.1 ∧ ruV T a m 3 ≤ d.2.1 ∧ ruV T a m 4 ≤ d.2.1 ∧ d.2.2.2.2.1 < 16 ∧ rcnt d.2.2.2.2.2 (numT T a 0 + 4 * numT T a 1) d.2.2.2.2.1 < 3 then some (d.1, d.2.1, d.2.2.1, d.2.2.2.1, d.2.2.2.2.1 + 1, updN d.2.2.2.2.2 d.2.2.2.2.1 (rcode (numT T a 0) (numT T a 1) (numT T a 2) (ruV T a m 3) (ruV T a m 4))) else none
def kwB (T : Nat → Nat) (a i : Nat) : Bool := if i % 2 = 1 then decide (48 ≤ T (a + i) ∧ T (a + i) ≤ 57) else decide (T (a + i) = 44)
def kwA (T : Nat → Nat) (a : Nat) : Nat → Bool
  | 0 => true
  | n + 1 => kwA T a n && (decide (n = 0) || kwB T a n)
theorem kwA_f {T : Nat → Nat} {a i : Nat} (h1 : 1 ≤ i) (h : kwB T a i = false) : ∀ n : Nat, i < n → kwA T a n = false
  | 0, hn => absurd hn (Nat.not_lt_zero _)
  | n + 1, hn => by
    unfold kwA
    by_cases hi : i = n
    · subst hi
      rw [h, decide_eq_false (show ¬ i = 0 by omega)]
      simp
    · rw [kwA_f h1 h n (by omega)]
      rfl
theorem kwA_t {T : Nat → Nat} {a : Nat} : ∀ (n : Nat), kwA T a n = true → ∀ i, 1 ≤ i → i < n → kwB T a i = true
  | 0, _, i, _, hn => absurd hn (Nat.not_lt_zero _)
  | n + 1, h, i, h1, hn => by
    unfold kwA at h
    simp only [Bool.and_eq_true, Bool.or_eq_true, decide_eq_true_eq] at h
    by_cases hi : i = n
    · subst hi
      rcases h.2 with h2 | h2
      · omega
      · exact h2
    · exact kwA_t n h.1 i h1 (by omega)
def kwn (T : Nat → Nat) (a b : Nat) : Bool := decide (2 ≤ b - a) && decide ((b - a) % 2 = 0) && kwA T a (b - a)
theorem kwn_dig {T : Nat → Nat} {a b : Nat} (h : kwn T a b = true) (i : Nat) (hi : i < (b - a) / 2) : 48 ≤ T (a + 1 + 2 * i) ∧ T (a + 1 + 2 * i) ≤ 57 := by
  unfold kwn at h
  simp only [Bool.and_eq_true, decide_eq_true_eq] at h
  have h1 := kwA_t _ h.2 (1 + 2 * i) (by omega) (by omega)
  unfold kwB at h1
  rw [if_pos (by omega), decide_eq_true_eq, show a + (1 + 2 * i) = a + 1 + 2 * i by omega] at h1
  exact h1
/-- one statement, from a up to its ; at b -/
def stm (T : Nat → Nat) (a b : Nat) (d : DS) : Option DS :=
  if kwn T a b = true then
    (if (T a = 103 ↔ a = 0) then
      (if T a = 103 then (if (b - a) / 2 = 2 then szs T a d else none)
       else if T a = 111 ∨ T a = 116 then (if (b - a) / 2 = 1 then mrk T a d else none)
       else if T a = 114 ∧ 3 ≤ (b - a) / 2 ∧ (b - a) / 2 ≤ 5 then rul T a ((b - a) / 2) d else none)
     else none)
  else none
def dOk (d : DS) : Prop := d.1 ≤ 4 ∧ d.2.1 ≤ 3 ∧ d.2.2.1 < 16 ∧ d.2.2.2.1 < 16 ∧ d.2.2.2.2.1 ≤ 16 ∧ ∀ i, d.2.2.2.2.2 i < 1024
theorem rcode_lt {a b c u v : Nat} (ha : a < 4) (hb : b < 4) (hc : c < 4) (hu : u < 4) (hv : v < 4) : rcode a b c u v < 1024 := by unfold rcode; omega
theorem szs_ok {T : Nat → Nat} {a : Nat} {d d' : DS} (h : szs T a d = some d') (hd : dOk d) : dOk d' := by
  unfold szs at h
  split at h
  · rename_i h1
    cases h
    exact ⟨h1.2.1, h1.2.2.2, hd.2.2⟩
  · cases h
theorem mrk_ok {T : Nat → Nat} {a : Nat} {d d' : DS} (h : mrk T a d = some d') (hd : dOk d) : dOk d' := by
  unfold mrk at h
  split at h
  · rename_i h1
    have hn : numT T a 0 < 4 := Nat.lt_of_lt_of_le h1 hd.1
    split at h
    · cases h
      exact ⟨hd.1, hd.2.1, wbit_lt _ hd.2.2.1 _ hn 1 (by decide), hd.2.2.2⟩
    · cases h
      exact ⟨hd.1, hd.2.1, hd.2.2.1, wbit_lt _ hd.2.2.2.1 _ hn 1 (by decide), hd.2.2.2.2⟩
  · cases h
theorem rul_ok {T : Nat → Nat} {a m : Nat} {d d' : DS} (h : rul T a m d = some d') (hd : dOk d) : dOk d' := by
  unfold rul at h
  split at h
  · rename_i h1
    obtain ⟨g1, g2, g3, g4, g5, g6⟩ := hd
    cases h
    refine ⟨g1, g2, g3, g4, ?_, ?_⟩
    · show d.2.2.2.2.1 + 1 ≤ 16
      omega
    · exact upd_lt g6 (rcode_lt (by omega) (by omega) (by omega) (by omega) (by omega))
  · cases h
theorem stm_ok {T : Nat → Nat} {a b : Nat} {d d' : DS} (h : stm T a b d = some d') (hd : dOk d) : dOk d' := by
  unfold stm at h
  repeat' split at h
  all_goals first | (cases h; done) | exact szs_ok h hd | exact mrk_ok h hd | exact rul_ok h hd
/-- the statements of a text: where the first malformed one begins; what they make -/
def rdL (T : Nat → Nat) (le : Nat) : Nat → Nat → Nat → DS → Option Nat × DS
  | 0, _, st, d => (if st < le then some st else none, d)
  | f + 1, i, st, d => if T i = 59 then (match stm T st i d with
      | none => (some st, d)
      | some d' => rdL T le f (i + 1) (i + 1) d') else rdL T le f (i + 1) st d
def rd (T : Nat → Nat) (le : Nat) (F : Nat → Nat) : Option Nat × DS := rdL T le le 0 0 (0, 0, 0, 0, 0, F)
def oI (o : Option Nat) : Int32 := match o with
  | none => (-4)
  | some k => nI k
theorem isW_iff {u v Y : Nat} (hu : u < 100) (hv : v < 100) (hY : Y < 100) : isW (nI u - nI 1) (nI v - nI 1) Y = true ↔ u ≤ Y ∧ v ≤ Y ∧ (u = 0 → v = 0) := by
  have hm : ∀ w : Nat, w < 100 → (nI w - nI 1 = (-1) ↔ w = 0) := by decide +kernel
  have hr : ∀ w : Nat, w < 100 → w ≠ 0 → (inR (nI w - nI 1) Y = true ↔ w ≤ Y) := by
    intro w hw h0
    rw [pk_sub (by omega)]
    constructor
    · intro h
      obtain ⟨j, h1, h2⟩ := inR_ex (by omega) h
      have := (nI_eq (by omega) (by omega)).mp h2
      omega
    · intro h
      exact inR_nI (by omega) (by omega)
  unfold isW
  by_cases h0 : u = 0
  · rw [if_pos ((hm u hu).mpr h0), decide_eq_true_eq, hm v hv]
    omega
  · rw [if_neg (fun h => h0 ((hm u hu).mp h)), Bool.and_eq_true, Bool.or_eq_true, hr u hu h0, decide_eq_true_eq, hm v hv]
    by_cases h1 : v = 0
    · simp [h1, h0]
    · rw [hr v hv h1]
      simp [h1, h0]
theorem rErr_0 {F : Nat → Nat} {n P Y x0 x1 x2 u v : Nat} (h0 : x0 < 100) (h1 : x1 < 100) (h2 : x2 < 100) (hu : u < 100) (hv : v < 100) (hP : P < 100) (hY : Y < 100) : rErr F n P Y (nI x0) (nI x1) (nI x2) (nI u - nI 1) (nI v - nI 1) = 0 ↔ x0 < P ∧ x1 < Y ∧ x2 < P ∧ u ≤ Y ∧ v ≤ Y ∧ (u = 0 → v = 0) ∧ n < 16 ∧ rcnt F (x0 + 4 * x1) n < 3 := by
  have hr : ∀ w Z : Nat, w < 100 → Z < 100 → (inR (nI w) Z = true ↔ w < Z) := by
    intro w Z hw hZ
    constructor
    · intro h
      obtain ⟨j, g1, g2⟩ := inR_ex (by omega) h
      have := (nI_eq (by omega) (by omega)).mp g2
      omega
    · intro h
      exact inR_nI h (by omega)
  unfold rErr
  rw [nI_clamp (by omega), nI_clamp (by omega)]
  by_cases hc : (inR (nI x0) P && inR (nI x1) Y && inR (nI x2) P && isW (nI u - nI 1) (nI v - nI 1) Y) = true
  · rw [if_pos hc]
    simp only [Bool.and_eq_true, hr _ _ h0 hP, hr _ _ h1 hY, hr _ _ h2 hP, isW_iff hu hv hY] at hc
    by_cases h3 : 16 ≤ n ∨ 3 ≤ rcnt F (x0 + 4 * x1) n
    · rw [if_pos h3]
      constructor
      · intro h; exact absurd h (by decide)
      · intro h; omega
    · rw [if_neg h3]
      constructor
      · intro _; refine ⟨hc.1.1.1, hc.1.1.2, hc.1.2, hc.2.1, hc.2.2.1, hc.2.2.2, by omega, by omega⟩
      · intro _; rfl
  · rw [if_neg hc]
    simp only [Bool.and_eq_true, hr _ _ h0 hP, hr _ _ h1 hY, hr _ _ h2 hP, isW_iff hu hv hY] at hc
    constructor
    · intro h; exact absurd h (by decide)
    · intro h; exact absurd ⟨⟨⟨h.1, h.2.1⟩, h.2.2.1⟩, h.2.2.2.1, h.2.2.2.2.1, h.2.2.2.2.2.1⟩ hc
/-- a game whole: states, symbols, opponents, targets, rules used, rules, state, stack, height -/
abbrev GT : Type := Nat × Nat × Nat × Nat × Nat × (Nat → Nat) × Nat × Nat × Nat
def updG (K : Nat → GT) (c : Nat) (g : GT) : Nat → GT := fun j => if j = c then g else K j
def kpG (K : Nat → GT) (c : Nat) (g : GT) : Nat → GT := updG K c (g.1, g.2.1, g.2.2.1, g.2.2.2.1, g.2.2.2.2.1, cpyN g.2.2.2.2.2.1 (K c).2.2.2.2.2.1 16, g.2.2.2.2.2.2)
theorem num_lt {T : Nat → Nat} {b i : Nat} (hd2 : T (b + 1 + 2 * i) ≤ 57) : numT T b i < 10 := by unfold numT; omega
theorem ruV_z {T : Nat → Nat} {x m : Nat} (h : ruV T x m 3 = 0) : ruV T x m 4 = 0 := by
  unfold ruV at h ⊢
  split at h
  · omega
  · rw [if_neg (by omega)]

theorem iw_X2_add_X2 : ∀ w ∈ wsX20, w ∈ wsX2_add := fun _ h => List.mem_cons_of_mem _ (List.mem_append_right _ h)
theorem lk_X2_add_15 : Cond.fieldLink RX2 15 (TX2 1).1 (TX2 1).2.1 (TX2 1).2.2.1 ∈ wsX2_add := List.mem_of_getElem? (i := 1) rfl
theorem lk_X2_add_11 : Cond.fieldLink RX2 11 (TX2 0).1 (TX2 0).2.1 (TX2 0).2.2.1 ∈ wsX2_add := List.mem_of_getElem? (i := 2) rfl
set_option maxHeartbeats 4000000 in
set_option maxRecDepth 100000 in
theorem c_X2_add (a tc le : Nat) (T : Nat → Nat) (c : Nat) (hc : c < 65536) (hle : le < 200) : Ct l yX2_add wsX2_add (rmD (0)) D [(cI, .int), (cC, .char), (cJ, .long), (cG, .object "PushdownGameSolver$Game")] [.ref (a), .int (nI c)] [(a, .inr (2, [.ref (tc), .int (nI le)])), (tc, .inl (cC, 200, .inl (fun zz => nI (T zz))))] (S := Unit) (fun _ => True) (fun _ => some (.int (nI (le + 1)))) (fun _ => [(a, .inr (2, [.ref (tc), .int (nI (le + 1))])), (tc, .inl (cC, 200, .inl (fun zz => nI ((updN T le c) zz))))]) := by
  refine Ct.of (lv := [(0, .ref (a)), (1, .int (nI c))]) (by decide) rfl (Nat.le_of_ble_eq_true rfl) rfl ?_
  intro ε hL EE FF
  refine j_aload_n EE 0 dX2_add_0 rfl rfl ?_
  refine j_get (T := TX2) EE iw_X2_add_X2 0 rfl rfl 1 (by decide) lk_X2_add_15 rfl dX2_add_1 ?_
  refine j_sipush (v := nI 200) EE dX2_add_4 (by decide) ?_
  refine j_icmp_lt EE 13 dX2_add_7 (by decide) (fun c7 => ?_) (fun c7 => absurd ((nI_ltI (a := le) (b := 200) (by omega) (by omega)).mpr hle) c7)
  have n7 : le < 200 := (nI_ltI (a := le) (b := 200) (by omega) (by omega)).mp c7
  refine j_aload_n EE 0 dX2_add_13 rfl rfl ?_
  refine j_get (T := TX2) EE iw_X2_add_X2 0 rfl rfl 0 (by decide) lk_X2_add_11 rfl dX2_add_14 ?_
  refine j_aload_n EE 0 dX2_add_17 rfl rfl ?_
  refine j_get (T := TX2) EE iw_X2_add_X2 0 rfl rfl 1 (by decide) lk_X2_add_15 rfl dX2_add_18 ?_
  refine j_iload_n EE 1 dX2_add_21 rfl rfl ?_
  refine j_cast (ws' := [(a, .inr (2, [.ref (tc), .int (nI le)])), (tc, .inl (cC, 200, .inl (fun zz => nI ((updN T le c) zz))))]) EE 1 1 rfl rfl (vp_in_nI (n := le) (by omega) (by decide)) (by rw [nI_clamp (by omega), nar_c (by omega), upd_N]; rfl) dX2_add_22 ?_
  refine j_aload_n EE 0 dX2_add_23 rfl rfl ?_
  refine j_dup EE rfl dX2_add_24 ?_
  refine j_get (T := TX2) EE iw_X2_add_X2 0 rfl rfl 1 (by decide) lk_X2_add_15 rfl dX2_add_25 ?_
  refine j_iconst (v := nI 1) EE dX2_add_28 (by decide) ?_
  refine j_iadd EE dX2_add_29 ?_
  refine j_topE (nI_add le 1) ?_
  refine j_put (T := TX2) (ws' := [(a, .inr (2, [.ref (tc), .int (nI (le + 1))])), (tc, .inl (cC, 200, .inl (fun zz => nI ((updN T le c) zz))))]) EE iw_X2_add_X2 tyX2 tyX2_ok nmX2 0 rfl rfl 1 (by decide) lk_X2_add_15 rfl rfl rfl (Nat.le_of_ble_eq_true rfl) rfl dX2_add_30 ?_
  refine j_aload_n EE 0 dX2_add_33 rfl rfl ?_
  refine j_get (T := TX2) EE iw_X2_add_X2 0 rfl rfl 1 (by decide) lk_X2_add_15 rfl dX2_add_34 ?_
  exact j_iret EE FF dX2_add_37 () trivial (by first | rfl | simp_all) rfl

set_option maxHeartbeats 4000000 in
set_option maxRecDepth 100000 in
theorem c_X2_addF (a tc le : Nat) (T : Nat → Nat) (c : Nat) (hle : 200 ≤ le) (hle2 : le < 1000) : Ct l yX2_add wsX2_add (rmD (0)) D [(cI, .int), (cC, .char), (cJ, .long), (cG, .object "PushdownGameSolver$Game")] [.ref (a), .int (nI c)] [(a, .inr (2, [.ref (tc), .int (nI le)])), (tc, .inl (cC, 200, .inl (fun zz => nI (T zz))))] (S := Unit) (fun _ => True) (fun _ => some (.int ((-3)))) (fun _ => [(a, .inr (2, [.ref (tc), .int (nI le)])), (tc, .inl (cC, 200, .inl (fun zz => nI (T zz))))]) := by
  refine Ct.of (lv := [(0, .ref (a)), (1, .int (nI c))]) (by decide) rfl (Nat.le_of_ble_eq_true rfl) rfl ?_
  intro ε hL EE FF
  refine j_aload_n EE 0 dX2_add_0 rfl rfl ?_
  refine j_get (T := TX2) EE iw_X2_add_X2 0 rfl rfl 1 (by decide) lk_X2_add_15 rfl dX2_add_1 ?_
  refine j_sipush (v := nI 200) EE dX2_add_4 (by decide) ?_
  refine j_icmp_lt EE 13 dX2_add_7 (by decide) (fun c7 => absurd ((nI_ltI (a := le) (b := 200) (by omega) (by omega)).mp c7) (by omega)) (fun c7 => ?_)
  have n7 : ¬ le < 200 := fun hq => c7 ((nI_ltI (a := le) (b := 200) (by omega) (by omega)).mpr hq)
  refine j_bipush (v := (-3)) EE dX2_add_10 (by decide) ?_
  exact j_iret EE FF dX2_add_12 () trivial (by first | rfl | simp_all) rfl

theorem iw_X2_empty_X2 : ∀ w ∈ wsX20, w ∈ wsX2_empty := fun _ h => List.mem_cons_of_mem _ (List.mem_append_right _ h)
theorem lk_X2_empty_15 : Cond.fieldLink RX2 15 (TX2 1).1 (TX2 1).2.1 (TX2 1).2.2.1 ∈ wsX2_empty := List.mem_of_getElem? (i := 1) rfl
set_option maxHeartbeats 4000000 in
set_option maxRecDepth 100000 in
theorem c_X2_empty (a tc le : Nat) (T : Nat → Nat) : Ct l yX2_empty wsX2_empty (rmD (0)) D [(cI, .int), (cC, .char), (cJ, .long), (cG, .object "PushdownGameSolver$Game")] [.ref (a)] [(a, .inr (2, [.ref (tc), .int (nI le)])), (tc, .inl (cC, 200, .inl (fun zz => nI (T zz))))] (S := Unit) (fun _ => True) (fun _ => some (.int (nI le))) (fun _ => [(a, .inr (2, [.ref (tc), .int (nI 0)])), (tc, .inl (cC, 200, .inl (fun zz => nI (T zz))))]) := by
  refine Ct.of (lv := [(0, .ref (a))]) (by decide) rfl (Nat.le_of_ble_eq_true rfl) rfl ?_
  intro ε hL EE FF
  refine j_aload_n EE 0 dX2_empty_0 rfl rfl ?_
  refine j_get (T := TX2) EE iw_X2_empty_X2 0 rfl rfl 1 (by decide) lk_X2_empty_15 rfl dX2_empty_1 ?_
  refine j_istore_n EE [(1, _), (0, _)] dX2_empty_4 rfl (Nat.lt_of_lt_of_eq (by decide) hL.symm) rfl ?_
  refine j_aload_n EE 1 dX2_empty_5 rfl rfl ?_
  refine j_iconst (v := nI 0) EE dX2_empty_6 (by decide) ?_
  refine j_put (T := TX2) (ws' := [(a, .inr (2, [.ref (tc), .int (nI 0)])), (tc, .inl (cC, 200, .inl (fun zz => nI (T zz))))]) EE iw_X2_empty_X2 tyX2 tyX2_ok nmX2 0 rfl rfl 1 (by decide) lk_X2_empty_15 rfl rfl rfl (Nat.le_of_ble_eq_true rfl) rfl dX2_empty_7 ?_
  refine j_iload_n EE 0 dX2_empty_10 rfl rfl ?_
  exact j_iret EE FF dX2_empty_11 () trivial (by first | rfl | simp_all) rfl

theorem iw_X2_number_X2 : ∀ w ∈ wsX20, w ∈ wsX2_number := fun _ h => List.mem_cons_of_mem _ (List.mem_append_right _ h)
theorem lk_X2_number_11 : Cond.fieldLink RX2 11 (TX2 0).1 (TX2 0).2.1 (TX2 0).2.2.1 ∈ wsX2_number := List.mem_of_getElem? (i := 1) rfl
set_option maxHeartbeats 4000000 in
set_option maxRecDepth 100000 in
theorem c_X2_number (a tc le : Nat) (T : Nat → Nat) (b i : Nat) (hd : 48 ≤ T (b + 1 + 2 * i)) (hd2 : T (b + 1 + 2 * i) ≤ 57) (hi : b + 1 + 2 * i < 200) : Ct l yX2_number wsX2_number (rmD (0)) D [(cI, .int), (cC, .char), (cJ, .long), (cG, .object "PushdownGameSolver$Game")] [.ref (a), .int (nI b), .int (nI i)] [(a, .inr (2, [.ref (tc), .int (nI le)])), (tc, .inl (cC, 200, .inl (fun zz => nI (T zz))))] (S := Unit) (fun _ => True) (fun _ => some (.int (nI (numT T b i)))) (fun _ => [(a, .inr (2, [.ref (tc), .int (nI le)])), (tc, .inl (cC, 200, .inl (fun zz => nI (T zz))))]) := by
  refine Ct.of (lv := [(0, .ref (a)), (1, .int (nI b)), (2, .int (nI i))]) (by decide) rfl (Nat.le_of_ble_eq_true rfl) rfl ?_
  intro ε hL EE FF
  refine j_aload_n EE 0 dX2_number_0 rfl rfl ?_
  refine j_get (T := TX2) EE iw_X2_number_X2 0 rfl rfl 0 (by decide) lk_X2_number_11 rfl dX2_number_1 ?_
  refine j_iload_n EE 1 dX2_number_4 rfl rfl ?_
  refine j_iconst (v := nI 1) EE dX2_number_5 (by decide) ?_
  refine j_iadd EE dX2_number_6 ?_
  refine j_topE (nI_add b 1) ?_
  refine j_iconst (v := nI 2) EE dX2_number_7 (by decide) ?_
  refine j_iload_n EE 2 dX2_number_8 rfl rfl ?_
  refine j_imul EE dX2_number_9 ?_
  refine j_topE (pk_mul 2 i) ?_
  refine j_iadd EE dX2_number_10 ?_
  refine j_topE (nI_add (b + 1) (2 * i)) ?_
  refine j_cald EE 1 1 rfl rfl (vp_in_nI (n := (b + 1) + (2 * i)) (by omega) (by decide)) dX2_number_11 ?_
  refine j_topE (congrArg (fun zz => nI (T zz)) (nI_clamp (n := (b + 1) + (2 * i)) (by omega))) ?_
  refine j_topE (y := nI (T (b + 1 + 2 * i))) rfl ?_
  refine j_bipush (v := nI 48) EE dX2_number_12 (by decide) ?_
  refine j_isub EE dX2_number_14 ?_
  refine j_topE (pk_sub (a := T (b + 1 + 2 * i)) (b := 48) (by omega)) ?_
  exact j_iret EE FF dX2_number_15 () trivial (by first | rfl | simp_all) rfl

theorem iw_X2_isKindWithNumbers_X2 : ∀ w ∈ wsX20, w ∈ wsX2_isKindWithNumbers := fun _ h => List.mem_cons_of_mem _ (List.mem_append_right _ h)
theorem lk_X2_isKindWithNumbers_11 : Cond.fieldLink RX2 11 (TX2 0).1 (TX2 0).2.1 (TX2 0).2.2.1 ∈ wsX2_isKindWithNumbers := List.mem_of_getElem? (i := 1) rfl
set_option maxHeartbeats 4000000 in
set_option maxRecDepth 100000 in
theorem c_X2_isKindWithNumbers (a tc le : Nat) (T : Nat → Nat) (x y : Nat) (hxy : x ≤ y) (hy : y < 200) (hT : ∀ i, T i < 65536) : Ct l yX2_isKindWithNumbers wsX2_isKindWithNumbers (rmD (0)) D [(cI, .int), (cC, .char), (cJ, .long), (cG, .object "PushdownGameSolver$Game")] [.ref (a), .int (nI x), .int (nI y)] [(a, .inr (2, [.ref (tc), .int (nI le)])), (tc, .inl (cC, 200, .inl (fun zz => nI (T zz))))] (S := Unit) (fun _ => True) (fun _ => some (.int (nI (b2n (kwn T x y))))) (fun _ => [(a, .inr (2, [.ref (tc), .int (nI le)])), (tc, .inl (cC, 200, .inl (fun zz => nI (T zz))))]) := by
  refine Ct.of (lv := [(0, .ref (a)), (1, .int (nI x)), (2, .int (nI y))]) (by decide) rfl (Nat.le_of_ble_eq_true rfl) rfl ?_
  intro ε hL EE FF
  have Lp_20 : ∀ (nf : Nat), ∀ (i : Nat), 200 - i < nf → (i ≤ y - x) → (1 ≤ i) → (kwA T x i = true) → (2 ≤ y - x ∧ (y - x) % 2 = 0) → J l (rmD (0)) D ε [(a, .inr (2, [.ref (tc), .int (nI le)])), (tc, .inl (cC, 200, .inl (fun zz => nI (T zz))))] 20 [(4, .int (nI i)), (3, .int (nI (y - x))), (0, .ref (a)), (1, .int (nI x)), (2, .int (nI y))] [] := by
    intro nf
    induction nf with
    | zero => intro i hm; exact absurd hm (Nat.not_lt_zero _)
    | succ nf ihp_20 =>
      intro i hm20 hi h1 hk h2
      refine j_iload EE 0 dX2_isKindWithNumbers_20 rfl ?_
      refine j_iload_n EE 1 dX2_isKindWithNumbers_22 rfl rfl ?_
      refine j_icmp_ge EE 94 dX2_isKindWithNumbers_23 (by decide) (fun c23 => ?_) (fun c23 => ?_)
      · skip
        have n23 : (y - x) ≤ i := (nI_leI (a := (y - x)) (b := i) (by omega) (by omega)).mp c23
        refine j_iconst (v := nI 1) EE dX2_isKindWithNumbers_94 (by decide) ?_
        exact j_zret EE FF (by decide) dX2_isKindWithNumbers_95 () trivial (by unfold kwn; rw [decide_eq_true (show 2 ≤ y - x by omega), decide_eq_true (show (y - x) % 2 = 0 by omega), show y - x = i by omega, hk]; rfl) rfl
      · skip
        have n23 : ¬ (y - x) ≤ i := fun hq => c23 ((nI_leI (a := (y - x)) (b := i) (by omega) (by omega)).mpr hq)
        refine j_aload_n EE 2 dX2_isKindWithNumbers_26 rfl rfl ?_
        refine j_get (T := TX2) EE iw_X2_isKindWithNumbers_X2 0 rfl rfl 0 (by decide) lk_X2_isKindWithNumbers_11 rfl dX2_isKindWithNumbers_27 ?_
        refine j_iload_n EE 3 dX2_isKindWithNumbers_30 rfl rfl ?_
        refine j_iload EE 0 dX2_isKindWithNumbers_31 rfl ?_
        refine j_iadd EE dX2_isKindWithNumbers_33 ?_
        refine j_topE (nI_add x i) ?_
        refine j_cald EE 1 1 rfl rfl (vp_in_nI (n := x + i) (by omega) (by decide)) dX2_isKindWithNumbers_34 ?_
        refine j_topE (congrArg (fun zz => nI (T zz)) (nI_clamp (n := x + i) (by omega))) ?_
        refine j_topE (y := nI (T (x + i))) rfl ?_
        refine j_istore EE [(5, _), (4, _), (3, _), (0, _), (1, _), (2, _)] dX2_isKindWithNumbers_35 (Nat.lt_of_lt_of_eq (by decide) hL.symm) rfl ?_
        refine j_iload EE 1 dX2_isKindWithNumbers_37 rfl ?_
        refine j_iconst (v := nI 2) EE dX2_isKindWithNumbers_39 (by decide) ?_
        refine j_irem EE (by decide) dX2_isKindWithNumbers_40 ?_
        refine j_topE (y := nI (i % 2)) (pk_rem (by omega) (by decide) (by decide)) ?_
        refine j_iconst (v := nI 1) EE dX2_isKindWithNumbers_41 (by decide) ?_
        refine j_icmp_ne EE 67 dX2_isKindWithNumbers_42 (by decide) (fun c42 => ?_) (fun c42 => ?_)
        · skip
          have n42 : (i % 2) ≠ 1 := fun hq => c42 ((nI_eq (a := (i % 2)) (b := 1) (by omega) (by omega)).mpr hq)
          have o42 : ¬ i % 2 = 1 := n42
          refine j_iload EE 0 dX2_isKindWithNumbers_67 rfl ?_
          refine j_bipush (v := nI 44) EE dX2_isKindWithNumbers_69 (by decide) ?_
          refine j_icmp_ne EE 78 dX2_isKindWithNumbers_71 (by decide) (fun c71 => ?_) (fun c71 => ?_)
          · skip
            have n71 : (T (x + i)) ≠ 44 := fun hq => c71 ((nI_eq (a := (T (x + i))) (b := 44) (by have := hT (x + i); omega) (by have := hT (x + i); omega)).mpr hq)
            have hkb : kwB T x i = false := by
              unfold kwB; rw [if_neg n42]; exact decide_eq_false n71
            refine j_iconst (v := nI 0) EE dX2_isKindWithNumbers_78 (by decide) ?_
            refine j_istore EE [(6, _), (5, _), (4, _), (3, _), (0, _), (1, _), (2, _)] dX2_isKindWithNumbers_79 (Nat.lt_of_lt_of_eq (by decide) hL.symm) rfl ?_
            refine j_iload EE 0 dX2_isKindWithNumbers_81 rfl ?_
            refine j_if_ne EE 88 dX2_isKindWithNumbers_83 (by decide) (fun c83 => absurd (by decide) c83) (fun c83 => ?_)
            have n83 : 0 = 0 := (nI_eq (a := 0) (b := 0) (by omega) (by omega)).mp c83
            refine j_iconst (v := nI 0) EE dX2_isKindWithNumbers_86 (by decide) ?_
            exact j_zret EE FF (by decide) dX2_isKindWithNumbers_87 () trivial (by unfold kwn; rw [kwA_f h1 hkb _ (by omega), Bool.and_false]; rfl) rfl
          · skip
            have n71 : (T (x + i)) = 44 := (nI_eq (a := (T (x + i))) (b := 44) (by have := hT (x + i); omega) (by have := hT (x + i); omega)).mp c71
            have hkb : kwB T x i = true := by
              unfold kwB; rw [if_neg n42]; exact decide_eq_true n71
            refine j_iconst (v := nI 1) EE dX2_isKindWithNumbers_74 (by decide) ?_
            refine j_goto EE 79 dX2_isKindWithNumbers_75 (by decide) ?_
            refine j_istore EE [(6, _), (5, _), (4, _), (3, _), (0, _), (1, _), (2, _)] dX2_isKindWithNumbers_79 (Nat.lt_of_lt_of_eq (by decide) hL.symm) rfl ?_
            refine j_iload EE 0 dX2_isKindWithNumbers_81 rfl ?_
            refine j_if_ne EE 88 dX2_isKindWithNumbers_83 (by decide) (fun c83 => ?_) (fun c83 => absurd c83 (by decide))
            have n83 : 1 ≠ 0 := fun hq => c83 ((nI_eq (a := 1) (b := 0) (by omega) (by omega)).mpr hq)
            refine j_iinc (v := nI (i + 1)) EE 2 [(4, .int (nI (i + 1))), (6, _), (5, _), (3, _), (0, _), (1, _), (2, _)] dX2_isKindWithNumbers_88 rfl (nI_1 i) (Nat.lt_of_lt_of_eq (by decide) hL.symm) rfl ?_
            refine j_goto EE 20 dX2_isKindWithNumbers_91 (by decide) ?_
            refine j_lv [0, 3, 4, 5, 6] rfl ?_
            exact ihp_20 (i + 1) (by omega) (by omega) (by omega) (by unfold kwA; rw [hk, hkb]; simp) h2
        · skip
          have n42 : (i % 2) = 1 := (nI_eq (a := (i % 2)) (b := 1) (by omega) (by omega)).mp c42
          have o42 : i % 2 = 1 := n42
          refine j_iload EE 0 dX2_isKindWithNumbers_45 rfl ?_
          refine j_bipush (v := nI 48) EE dX2_isKindWithNumbers_47 (by decide) ?_
          refine j_icmp_lt EE 63 dX2_isKindWithNumbers_49 (by decide) (fun c49 => ?_) (fun c49 => ?_)
          · skip
            have n49 : (T (x + i)) < 48 := (nI_ltI (a := (T (x + i))) (b := 48) (by have := hT (x + i); omega) (by have := hT (x + i); omega)).mp c49
            have hkb : kwB T x i = false := by
              unfold kwB; rw [if_pos n42]; exact decide_eq_false (by omega)
            refine j_iconst (v := nI 0) EE dX2_isKindWithNumbers_63 (by decide) ?_
            refine j_goto EE 79 dX2_isKindWithNumbers_64 (by decide) ?_
            refine j_istore EE [(6, _), (5, _), (4, _), (3, _), (0, _), (1, _), (2, _)] dX2_isKindWithNumbers_79 (Nat.lt_of_lt_of_eq (by decide) hL.symm) rfl ?_
            refine j_iload EE 0 dX2_isKindWithNumbers_81 rfl ?_
            refine j_if_ne EE 88 dX2_isKindWithNumbers_83 (by decide) (fun c83 => absurd (by decide) c83) (fun c83 => ?_)
            have n83 : 0 = 0 := (nI_eq (a := 0) (b := 0) (by omega) (by omega)).mp c83
            refine j_iconst (v := nI 0) EE dX2_isKindWithNumbers_86 (by decide) ?_
            exact j_zret EE FF (by decide) dX2_isKindWithNumbers_87 () trivial (by unfold kwn; rw [kwA_f h1 hkb _ (by omega), Bool.and_false]; rfl) rfl
          · skip
            have n49 : ¬ (T (x + i)) < 48 := fun hq => c49 ((nI_ltI (a := (T (x + i))) (b := 48) (by have := hT (x + i); omega) (by have := hT (x + i); omega)).mpr hq)
            refine j_iload EE 0 dX2_isKindWithNumbers_52 rfl ?_
            refine j_bipush (v := nI 57) EE dX2_isKindWithNumbers_54 (by decide) ?_
            refine j_icmp_gt EE 63 dX2_isKindWithNumbers_56 (by decide) (fun c56 => ?_) (fun c56 => ?_)
            · skip
              have n56 : 57 < (T (x + i)) := (nI_ltI (a := 57) (b := (T (x + i))) (by have := hT (x + i); omega) (by have := hT (x + i); omega)).mp c56
              have hkb : kwB T x i = false := by
                unfold kwB; rw [if_pos n42]; exact decide_eq_false (by omega)
              refine j_iconst (v := nI 0) EE dX2_isKindWithNumbers_63 (by decide) ?_
              refine j_goto EE 79 dX2_isKindWithNumbers_64 (by decide) ?_
              refine j_istore EE [(6, _), (5, _), (4, _), (3, _), (0, _), (1, _), (2, _)] dX2_isKindWithNumbers_79 (Nat.lt_of_lt_of_eq (by decide) hL.symm) rfl ?_
              refine j_iload EE 0 dX2_isKindWithNumbers_81 rfl ?_
              refine j_if_ne EE 88 dX2_isKindWithNumbers_83 (by decide) (fun c83 => absurd (by decide) c83) (fun c83 => ?_)
              have n83 : 0 = 0 := (nI_eq (a := 0) (b := 0) (by omega) (by omega)).mp c83
              refine j_iconst (v := nI 0) EE dX2_isKindWithNumbers_86 (by decide) ?_
              exact j_zret EE FF (by decide) dX2_isKindWithNumbers_87 () trivial (by unfold kwn; rw [kwA_f h1 hkb _ (by omega), Bool.and_false]; rfl) rfl
            · skip
              have n56 : ¬ 57 < (T (x + i)) := fun hq => c56 ((nI_ltI (a := 57) (b := (T (x + i))) (by have := hT (x + i); omega) (by have := hT (x + i); omega)).mpr hq)
              have hkb : kwB T x i = true := by
                unfold kwB; rw [if_pos n42]; exact decide_eq_true (by omega)
              refine j_iconst (v := nI 1) EE dX2_isKindWithNumbers_59 (by decide) ?_
              refine j_goto EE 79 dX2_isKindWithNumbers_60 (by decide) ?_
              refine j_istore EE [(6, _), (5, _), (4, _), (3, _), (0, _), (1, _), (2, _)] dX2_isKindWithNumbers_79 (Nat.lt_of_lt_of_eq (by decide) hL.symm) rfl ?_
              refine j_iload EE 0 dX2_isKindWithNumbers_81 rfl ?_
              refine j_if_ne EE 88 dX2_isKindWithNumbers_83 (by decide) (fun c83 => ?_) (fun c83 => absurd c83 (by decide))
              have n83 : 1 ≠ 0 := fun hq => c83 ((nI_eq (a := 1) (b := 0) (by omega) (by omega)).mpr hq)
              refine j_iinc (v := nI (i + 1)) EE 2 [(4, .int (nI (i + 1))), (6, _), (5, _), (3, _), (0, _), (1, _), (2, _)] dX2_isKindWithNumbers_88 rfl (nI_1 i) (Nat.lt_of_lt_of_eq (by decide) hL.symm) rfl ?_
              refine j_goto EE 20 dX2_isKindWithNumbers_91 (by decide) ?_
              refine j_lv [0, 3, 4, 5, 6] rfl ?_
              exact ihp_20 (i + 1) (by omega) (by omega) (by omega) (by unfold kwA; rw [hk, hkb]; simp) h2
  refine j_iload_n EE 2 dX2_isKindWithNumbers_0 rfl rfl ?_
  refine j_iload_n EE 1 dX2_isKindWithNumbers_1 rfl rfl ?_
  refine j_isub EE dX2_isKindWithNumbers_2 ?_
  refine j_topE (pk_sub (a := y) (b := x) (by omega)) ?_
  refine j_istore_n EE [(3, _), (0, _), (1, _), (2, _)] dX2_isKindWithNumbers_3 rfl (Nat.lt_of_lt_of_eq (by decide) hL.symm) rfl ?_
  refine j_iload_n EE 0 dX2_isKindWithNumbers_4 rfl rfl ?_
  refine j_iconst (v := nI 2) EE dX2_isKindWithNumbers_5 (by decide) ?_
  refine j_icmp_lt EE 15 dX2_isKindWithNumbers_6 (by decide) (fun c6 => ?_) (fun c6 => ?_)
  · skip
    have n6 : (y - x) < 2 := (nI_ltI (a := (y - x)) (b := 2) (by omega) (by omega)).mp c6
    refine j_iconst (v := nI 0) EE dX2_isKindWithNumbers_15 (by decide) ?_
    exact j_zret EE FF (by decide) dX2_isKindWithNumbers_16 () trivial (by unfold kwn; first | rw [decide_eq_false (show ¬ 2 ≤ y - x by omega)]; rfl | rw [decide_eq_false (show ¬ (y - x) % 2 = 0 by omega), Bool.and_false]; rfl) rfl
  · skip
    have n6 : ¬ (y - x) < 2 := fun hq => c6 ((nI_ltI (a := (y - x)) (b := 2) (by omega) (by omega)).mpr hq)
    refine j_iload_n EE 0 dX2_isKindWithNumbers_9 rfl rfl ?_
    refine j_iconst (v := nI 2) EE dX2_isKindWithNumbers_10 (by decide) ?_
    refine j_irem EE (by decide) dX2_isKindWithNumbers_11 ?_
    refine j_topE (y := nI ((y - x) % 2)) (pk_rem (by omega) (by decide) (by decide)) ?_
    refine j_if_eq EE 17 dX2_isKindWithNumbers_12 (by decide) (fun c12 => ?_) (fun c12 => ?_)
    · skip
      have n12 : ((y - x) % 2) = 0 := (nI_eq (a := ((y - x) % 2)) (b := 0) (by omega) (by omega)).mp c12
      refine j_iconst (v := nI 1) EE dX2_isKindWithNumbers_17 (by decide) ?_
      refine j_istore EE [(4, _), (3, _), (0, _), (1, _), (2, _)] dX2_isKindWithNumbers_18 (Nat.lt_of_lt_of_eq (by decide) hL.symm) rfl ?_
      exact Lp_20 _ 1 (Nat.lt_succ_self _) (by omega) (by omega) rfl (by omega)
    · skip
      have n12 : ((y - x) % 2) ≠ 0 := fun hq => c12 ((nI_eq (a := ((y - x) % 2)) (b := 0) (by omega) (by omega)).mpr hq)
      refine j_iconst (v := nI 0) EE dX2_isKindWithNumbers_15 (by decide) ?_
      exact j_zret EE FF (by decide) dX2_isKindWithNumbers_16 () trivial (by unfold kwn; first | rw [decide_eq_false (show ¬ 2 ≤ y - x by omega)]; rfl | rw [decide_eq_false (show ¬ (y - x) % 2 = 0 by omega), Bool.and_false]; rfl) rfl

theorem hd_X2_number : yX2_number.cls ≠ "java/lang/invoke/MethodHandle" ∧ yX2_number.cls ≠ "java/lang/invoke/VarHandle" ∧ (parseMethodDescriptor yX2_number.desc).map (fun d => d.parameters.length) = some 2 := by decide +kernel
theorem iw_X2_readSizes_X1 : ∀ w ∈ wsX10, w ∈ wsX2_readSizes := fun _ h => List.mem_cons_of_mem _ (List.mem_append_left _ (List.mem_append_right _ h))
theorem lk_X2_readSizes_46 : Cond.fieldLink RX2 46 (TX1 0).1 (TX1 0).2.1 (TX1 0).2.2.1 ∈ wsX2_readSizes := List.mem_of_getElem? (i := 1) rfl
theorem lk_X2_readSizes_49 : Cond.fieldLink RX2 49 (TX1 1).1 (TX1 1).2.1 (TX1 1).2.2.1 ∈ wsX2_readSizes := List.mem_of_getElem? (i := 2) rfl
set_option maxHeartbeats 4000000 in
set_option maxRecDepth 100000 in
theorem c_X2_readSizes (a tc le : Nat) (T : Nat → Nat) (b rb : Nat) (d : DS) (q S h : Nat) (hd0 : dOk d) (x : Nat) (hd : ∀ i, i < 2 → 48 ≤ T (x + 1 + 2 * i) ∧ T (x + 1 + 2 * i) ≤ 57) (hx : x + 4 ≤ 200) : Ct l yX2_readSizes wsX2_readSizes (rmD (1)) D [(cI, .int), (cC, .char), (cJ, .long), (cG, .object "PushdownGameSolver$Game")] [.ref (a), .int (nI x), .ref (b)] [(a, .inr (2, [.ref (tc), .int (nI le)])), (tc, .inl (cC, 200, .inl (fun zz => nI (T zz)))), (b, .inr (1, [.int (nI d.1), .int (nI d.2.1), .int (nI d.2.2.1), .int (nI d.2.2.2.1), .int (nI d.2.2.2.2.1), .ref (rb), .int (nI q), .long (lN S), .int (nI h)])), (rb, .inl (cI, 16, .inl (fun zz => nI (d.2.2.2.2.2 zz))))] (S := Unit) (fun _ => True) (fun _ => some (.int (nI (b2n (szs T x d).isSome)))) (fun _ => [(a, .inr (2, [.ref (tc), .int (nI le)])), (tc, .inl (cC, 200, .inl (fun zz => nI (T zz)))), (b, .inr (1, [.int (nI (((szs T x d).getD d).1)), .int (nI (((szs T x d).getD d).2.1)), .int (nI (((szs T x d).getD d).2.2.1)), .int (nI (((szs T x d).getD d).2.2.2.1)), .int (nI (((szs T x d).getD d).2.2.2.2.1)), .ref (rb), .int (nI q), .long (lN S), .int (nI h)])), (rb, .inl (cI, 16, .inl (fun zz => nI (((szs T x d).getD d).2.2.2.2.2 zz))))]) := by
  refine Ct.of (lv := [(0, .ref (a)), (1, .int (nI x)), (2, .ref (b))]) (by decide) rfl (Nat.le_of_ble_eq_true rfl) rfl ?_
  intro ε hL EE FF
  obtain ⟨k1, k2, k3, k4, k5, k6⟩ := id hd0
  refine j_aload_n EE 0 dX2_readSizes_0 rfl rfl ?_
  refine j_iload_n EE 1 dX2_readSizes_1 rfl rfl ?_
  refine j_iconst (v := nI 0) EE dX2_readSizes_2 (by decide) ?_
  refine j_V2 (n9 := 4) EE (c_X2_number a tc le T x 0 (hd 0 (by omega)).1 (hd 0 (by omega)).2 (by omega)) gX2_readSizes_X2_number ⟨rfl, hd_X2_number⟩ rfl ⟨rfl, rfl⟩ ⟨by decide, by decide⟩ rfl [0, 1] rfl [2, 3] [(a, .inr (2, [.ref (tc), .int (nI le)])), (tc, .inl (cC, 200, .inl (fun zz => nI (T zz)))), (b, .inr (1, [.int (nI d.1), .int (nI d.2.1), .int (nI d.2.2.1), .int (nI d.2.2.2.1), .int (nI d.2.2.2.2.1), .ref (rb), .int (nI q), .long (lN S), .int (nI h)])), (rb, .inl (cI, 16, .inl (fun zz => nI (d.2.2.2.2.2 zz))))] (fun _ => rfl) [(b, .inr (1, [.int (nI d.1), .int (nI d.2.1), .int (nI d.2.2.1), .int (nI d.2.2.2.1), .int (nI d.2.2.2.2.1), .ref (rb), .int (nI q), .long (lN S), .int (nI h)])), (rb, .inl (cI, 16, .inl (fun zz => nI (d.2.2.2.2.2 zz))))] [a, tc, b, rb] rfl rfl rfl rfl rfl (by decide) (by decide) 0 rfl rfl rfl (Nat.le_of_ble_eq_true rfl) dX2_readSizes_3 (fun u_3 h_3 => ?_) rfl
  show J l _ D ε _ _ _ (.int (nI (numT T x 0)) :: _)
  refine j_istore_n EE [(3, _), (0, _), (1, _), (2, _)] dX2_readSizes_6 rfl (Nat.lt_of_lt_of_eq (by decide) hL.symm) rfl ?_
  refine j_aload_n EE 1 dX2_readSizes_7 rfl rfl ?_
  refine j_iload_n EE 2 dX2_readSizes_8 rfl rfl ?_
  refine j_iconst (v := nI 1) EE dX2_readSizes_9 (by decide) ?_
  refine j_V2 (n9 := 4) EE (c_X2_number a tc le T x 1 (hd 1 (by omega)).1 (hd 1 (by omega)).2 (by omega)) gX2_readSizes_X2_number ⟨rfl, hd_X2_number⟩ rfl ⟨rfl, rfl⟩ ⟨by decide, by decide⟩ rfl [0, 1] rfl [2, 3] [(a, .inr (2, [.ref (tc), .int (nI le)])), (tc, .inl (cC, 200, .inl (fun zz => nI (T zz)))), (b, .inr (1, [.int (nI d.1), .int (nI d.2.1), .int (nI d.2.2.1), .int (nI d.2.2.2.1), .int (nI d.2.2.2.2.1), .ref (rb), .int (nI q), .long (lN S), .int (nI h)])), (rb, .inl (cI, 16, .inl (fun zz => nI (d.2.2.2.2.2 zz))))] (fun _ => rfl) [(b, .inr (1, [.int (nI d.1), .int (nI d.2.1), .int (nI d.2.2.1), .int (nI d.2.2.2.1), .int (nI d.2.2.2.2.1), .ref (rb), .int (nI q), .long (lN S), .int (nI h)])), (rb, .inl (cI, 16, .inl (fun zz => nI (d.2.2.2.2.2 zz))))] [a, tc, b, rb] rfl rfl rfl rfl rfl (by decide) (by decide) 0 rfl rfl rfl (Nat.le_of_ble_eq_true rfl) dX2_readSizes_10 (fun u_10 h_10 => ?_) rfl
  show J l _ D ε _ _ _ (.int (nI (numT T x 1)) :: _)
  refine j_istore EE [(4, _), (3, _), (0, _), (1, _), (2, _)] dX2_readSizes_13 (Nat.lt_of_lt_of_eq (by decide) hL.symm) rfl ?_
  refine j_iload_n EE 1 dX2_readSizes_15 rfl rfl ?_
  refine j_iconst (v := nI 1) EE dX2_readSizes_16 (by decide) ?_
  refine j_icmp_lt EE 37 dX2_readSizes_17 (by decide) (fun c17 => ?_) (fun c17 => ?_)
  · skip
    have n17 : (numT T x 0) < 1 := (nI_ltI (a := (numT T x 0)) (b := 1) (by have := num_lt (hd 0 (by omega)).2; omega) (by have := num_lt (hd 0 (by omega)).2; omega)).mp c17
    refine j_iconst (v := nI 0) EE dX2_readSizes_37 (by decide) ?_
    have e1 : szs T x d = none := if_neg (by omega)
    exact j_zret EE FF (by decide) dX2_readSizes_38 () trivial (by rw [e1]; rfl) (by rw [e1]; rfl)
  · skip
    have n17 : ¬ (numT T x 0) < 1 := fun hq => c17 ((nI_ltI (a := (numT T x 0)) (b := 1) (by have := num_lt (hd 0 (by omega)).2; omega) (by have := num_lt (hd 0 (by omega)).2; omega)).mpr hq)
    refine j_iload_n EE 1 dX2_readSizes_20 rfl rfl ?_
    refine j_iconst (v := nI 4) EE dX2_readSizes_21 (by decide) ?_
    refine j_icmp_gt EE 37 dX2_readSizes_22 (by decide) (fun c22 => ?_) (fun c22 => ?_)
    · skip
      have n22 : 4 < (numT T x 0) := (nI_ltI (a := 4) (b := (numT T x 0)) (by have := num_lt (hd 0 (by omega)).2; omega) (by have := num_lt (hd 0 (by omega)).2; omega)).mp c22
      refine j_iconst (v := nI 0) EE dX2_readSizes_37 (by decide) ?_
      have e1 : szs T x d = none := if_neg (by omega)
      exact j_zret EE FF (by decide) dX2_readSizes_38 () trivial (by rw [e1]; rfl) (by rw [e1]; rfl)
    · skip
      have n22 : ¬ 4 < (numT T x 0) := fun hq => c22 ((nI_ltI (a := 4) (b := (numT T x 0)) (by have := num_lt (hd 0 (by omega)).2; omega) (by have := num_lt (hd 0 (by omega)).2; omega)).mpr hq)
      refine j_iload EE 0 dX2_readSizes_25 rfl ?_
      refine j_iconst (v := nI 1) EE dX2_readSizes_27 (by decide) ?_
      refine j_icmp_lt EE 37 dX2_readSizes_28 (by decide) (fun c28 => ?_) (fun c28 => ?_)
      · skip
        have n28 : (numT T x 1) < 1 := (nI_ltI (a := (numT T x 1)) (b := 1) (by have := num_lt (hd 1 (by omega)).2; omega) (by have := num_lt (hd 1 (by omega)).2; omega)).mp c28
        refine j_iconst (v := nI 0) EE dX2_readSizes_37 (by decide) ?_
        have e1 : szs T x d = none := if_neg (by omega)
        exact j_zret EE FF (by decide) dX2_readSizes_38 () trivial (by rw [e1]; rfl) (by rw [e1]; rfl)
      · skip
        have n28 : ¬ (numT T x 1) < 1 := fun hq => c28 ((nI_ltI (a := (numT T x 1)) (b := 1) (by have := num_lt (hd 1 (by omega)).2; omega) (by have := num_lt (hd 1 (by omega)).2; omega)).mpr hq)
        refine j_iload EE 0 dX2_readSizes_31 rfl ?_
        refine j_iconst (v := nI 3) EE dX2_readSizes_33 (by decide) ?_
        refine j_icmp_le EE 39 dX2_readSizes_34 (by decide) (fun c34 => ?_) (fun c34 => ?_)
        · skip
          have n34 : (numT T x 1) ≤ 3 := (nI_leI (a := (numT T x 1)) (b := 3) (by have := num_lt (hd 1 (by omega)).2; omega) (by have := num_lt (hd 1 (by omega)).2; omega)).mp c34
          refine j_aload_n EE 4 dX2_readSizes_39 rfl rfl ?_
          refine j_iload_n EE 1 dX2_readSizes_40 rfl rfl ?_
          refine j_put (T := TX1) (ws' := [(a, .inr (2, [.ref (tc), .int (nI le)])), (tc, .inl (cC, 200, .inl (fun zz => nI (T zz)))), (b, .inr (1, [.int (nI (numT T x 0)), .int (nI d.2.1), .int (nI d.2.2.1), .int (nI d.2.2.2.1), .int (nI d.2.2.2.2.1), .ref (rb), .int (nI q), .long (lN S), .int (nI h)])), (rb, .inl (cI, 16, .inl (fun zz => nI (d.2.2.2.2.2 zz))))]) EE iw_X2_readSizes_X1 tyX1 tyX1_ok nmX1 2 rfl rfl 0 (by decide) lk_X2_readSizes_46 rfl rfl rfl (Nat.le_of_ble_eq_true rfl) rfl dX2_readSizes_41 ?_
          refine j_aload_n EE 4 dX2_readSizes_44 rfl rfl ?_
          refine j_iload EE 0 dX2_readSizes_45 rfl ?_
          refine j_put (T := TX1) (ws' := [(a, .inr (2, [.ref (tc), .int (nI le)])), (tc, .inl (cC, 200, .inl (fun zz => nI (T zz)))), (b, .inr (1, [.int (nI (numT T x 0)), .int (nI (numT T x 1)), .int (nI d.2.2.1), .int (nI d.2.2.2.1), .int (nI d.2.2.2.2.1), .ref (rb), .int (nI q), .long (lN S), .int (nI h)])), (rb, .inl (cI, 16, .inl (fun zz => nI (d.2.2.2.2.2 zz))))]) EE iw_X2_readSizes_X1 tyX1 tyX1_ok nmX1 2 rfl rfl 1 (by decide) lk_X2_readSizes_49 rfl rfl rfl (Nat.le_of_ble_eq_true rfl) rfl dX2_readSizes_47 ?_
          refine j_iconst (v := nI 1) EE dX2_readSizes_50 (by decide) ?_
          have e1 : szs T x d = some (numT T x 0, numT T x 1, d.2.2) := if_pos (by omega)
          exact j_zret EE FF (by decide) dX2_readSizes_51 () trivial (by rw [e1]; rfl) (by rw [e1]; rfl)
        · skip
          have n34 : ¬ (numT T x 1) ≤ 3 := fun hq => c34 ((nI_leI (a := (numT T x 1)) (b := 3) (by have := num_lt (hd 1 (by omega)).2; omega) (by have := num_lt (hd 1 (by omega)).2; omega)).mpr hq)
          refine j_iconst (v := nI 0) EE dX2_readSizes_37 (by decide) ?_
          have e1 : szs T x d = none := if_neg (by omega)
          exact j_zret EE FF (by decide) dX2_readSizes_38 () trivial (by rw [e1]; rfl) (by rw [e1]; rfl)

theorem iw_X2_readMark_X2 : ∀ w ∈ wsX20, w ∈ wsX2_readMark := fun _ h => List.mem_cons_of_mem _ (List.mem_append_left _ (List.mem_append_right _ h))
theorem lk_X2_readMark_11 : Cond.fieldLink RX2 11 (TX2 0).1 (TX2 0).2.1 (TX2 0).2.2.1 ∈ wsX2_readMark := List.mem_of_getElem? (i := 1) rfl
theorem iw_X2_readMark_X1 : ∀ w ∈ wsX10, w ∈ wsX2_readMark := fun _ h => List.mem_cons_of_mem _ (List.mem_append_right _ h)
theorem lk_X2_readMark_63 : Cond.fieldLink RX2 63 (TX1 3).1 (TX1 3).2.1 (TX1 3).2.2.1 ∈ wsX2_readMark := List.mem_of_getElem? (i := 3) rfl
theorem hd_X9_withBit : yX9_withBit.cls ≠ "java/lang/invoke/MethodHandle" ∧ yX9_withBit.cls ≠ "java/lang/invoke/VarHandle" ∧ (parseMethodDescriptor yX9_withBit.desc).map (fun d => d.parameters.length) = some 3 := by decide +kernel
theorem mw_X2_readMark_iX9 : Cond.initialized RX9 ∈ wsX2_readMark := List.mem_of_getElem? (i := 16) rfl
theorem mw_X2_readMark_s_X9_withBit : Cond.static yX9_withBit ∈ wsX2_readMark := List.mem_of_getElem? (i := 15) rfl
theorem lk_X2_readMark_56 : Cond.fieldLink RX2 56 (TX1 2).1 (TX1 2).2.1 (TX1 2).2.2.1 ∈ wsX2_readMark := List.mem_of_getElem? (i := 2) rfl
set_option maxHeartbeats 4000000 in
set_option maxRecDepth 100000 in
theorem c_X2_readMark (a tc le : Nat) (T : Nat → Nat) (b rb : Nat) (d : DS) (q S h : Nat) (hd0 : dOk d) (x : Nat) (hd : ∀ i, i < 1 → 48 ≤ T (x + 1 + 2 * i) ∧ T (x + 1 + 2 * i) ≤ 57) (hx : x + 2 ≤ 200) (hT : ∀ i, T i < 65536) : Ct l yX2_readMark wsX2_readMark (rmD (1)) D [(cI, .int), (cC, .char), (cJ, .long), (cG, .object "PushdownGameSolver$Game")] [.ref (a), .int (nI x), .ref (b)] [(a, .inr (2, [.ref (tc), .int (nI le)])), (tc, .inl (cC, 200, .inl (fun zz => nI (T zz)))), (b, .inr (1, [.int (nI d.1), .int (nI d.2.1), .int (nI d.2.2.1), .int (nI d.2.2.2.1), .int (nI d.2.2.2.2.1), .ref (rb), .int (nI q), .long (lN S), .int (nI h)])), (rb, .inl (cI, 16, .inl (fun zz => nI (d.2.2.2.2.2 zz))))] (S := Unit) (fun _ => True) (fun _ => some (.int (nI (b2n (mrk T x d).isSome)))) (fun _ => [(a, .inr (2, [.ref (tc), .int (nI le)])), (tc, .inl (cC, 200, .inl (fun zz => nI (T zz)))), (b, .inr (1, [.int (nI (((mrk T x d).getD d).1)), .int (nI (((mrk T x d).getD d).2.1)), .int (nI (((mrk T x d).getD d).2.2.1)), .int (nI (((mrk T x d).getD d).2.2.2.1)), .int (nI (((mrk T x d).getD d).2.2.2.2.1)), .ref (rb), .int (nI q), .long (lN S), .int (nI h)])), (rb, .inl (cI, 16, .inl (fun zz => nI (((mrk T x d).getD d).2.2.2.2.2 zz))))]) := by
  refine Ct.of (lv := [(0, .ref (a)), (1, .int (nI x)), (2, .ref (b))]) (by decide) rfl (Nat.le_of_ble_eq_true rfl) rfl ?_
  intro ε hL EE FF
  obtain ⟨k1, k2, k3, k4, k5, k6⟩ := id hd0
  refine j_aload_n EE 0 dX2_readMark_0 rfl rfl ?_
  refine j_iload_n EE 1 dX2_readMark_1 rfl rfl ?_
  refine j_iconst (v := nI 0) EE dX2_readMark_2 (by decide) ?_
  refine j_V2 (n9 := 4) EE (c_X2_number a tc le T x 0 (hd 0 (by omega)).1 (hd 0 (by omega)).2 (by omega)) gX2_readMark_X2_number ⟨rfl, hd_X2_number⟩ rfl ⟨rfl, rfl⟩ ⟨by decide, by decide⟩ rfl [0, 1] rfl [2, 3] [(a, .inr (2, [.ref (tc), .int (nI le)])), (tc, .inl (cC, 200, .inl (fun zz => nI (T zz)))), (b, .inr (1, [.int (nI d.1), .int (nI d.2.1), .int (nI d.2.2.1), .int (nI d.2.2.2.1), .int (nI d.2.2.2.2.1), .ref (rb), .int (nI q), .long (lN S), .int (nI h)])), (rb, .inl (cI, 16, .inl (fun zz => nI (d.2.2.2.2.2 zz))))] (fun _ => rfl) [(b, .inr (1, [.int (nI d.1), .int (nI d.2.1), .int (nI d.2.2.1), .int (nI d.2.2.2.1), .int (nI d.2.2.2.2.1), .ref (rb), .int (nI q), .long (lN S), .int (nI h)])), (rb, .inl (cI, 16, .inl (fun zz => nI (d.2.2.2.2.2 zz))))] [a, tc, b, rb] rfl rfl rfl rfl rfl (by decide) (by decide) 0 rfl rfl rfl (Nat.le_of_ble_eq_true rfl) dX2_readMark_3 (fun u_3 h_3 => ?_) rfl
  show J l _ D ε _ _ _ (.int (nI (numT T x 0)) :: _)
  refine j_istore_n EE [(3, _), (0, _), (1, _), (2, _)] dX2_readMark_6 rfl (Nat.lt_of_lt_of_eq (by decide) hL.symm) rfl ?_
  refine j_aload_n EE 3 dX2_readMark_7 rfl rfl ?_
  refine j_iload_n EE 0 dX2_readMark_8 rfl rfl ?_
  refine j_V2 (n9 := 4) EE (c_X1_hasState b rb d.1 d.2.1 d.2.2.1 d.2.2.2.1 d.2.2.2.2.1 q S h d.2.2.2.2.2 (nI (numT T x 0)) (by have := num_lt (hd 0 (by omega)).2; omega)) gX2_readMark_X1_hasState ⟨rfl, hd_X1_hasState⟩ rfl ⟨rfl, rfl⟩ ⟨by decide, by decide⟩ rfl [2, 3] rfl [0, 1] [(a, .inr (2, [.ref (tc), .int (nI le)])), (tc, .inl (cC, 200, .inl (fun zz => nI (T zz)))), (b, .inr (1, [.int (nI d.1), .int (nI d.2.1), .int (nI d.2.2.1), .int (nI d.2.2.2.1), .int (nI d.2.2.2.2.1), .ref (rb), .int (nI q), .long (lN S), .int (nI h)])), (rb, .inl (cI, 16, .inl (fun zz => nI (d.2.2.2.2.2 zz))))] (fun _ => rfl) [(a, .inr (2, [.ref (tc), .int (nI le)])), (tc, .inl (cC, 200, .inl (fun zz => nI (T zz))))] [a, tc, b, rb] rfl rfl rfl rfl rfl (by decide) (by decide) 0 rfl rfl rfl (Nat.le_of_ble_eq_true rfl) dX2_readMark_9 (fun u_9 h_9 => ?_) rfl
  show J l _ D ε _ _ _ (.int (nI (b2n (inR (nI (numT T x 0)) d.1))) :: _)
  have hn0 := num_lt (hd 0 (by omega)).2
  refine j_if_ne EE 17 dX2_readMark_12 (by decide) (fun c12 => ?_) (fun c12 => ?_)
  · skip
    have n12 : (b2n (inR (nI (numT T x 0)) d.1)) ≠ 0 := fun hq => c12 ((nI_eq (a := (b2n (inR (nI (numT T x 0)) d.1))) (b := 0) (by have := b2n_lt (inR (nI (numT T x 0)) d.1); omega) (by have := b2n_lt (inR (nI (numT T x 0)) d.1); omega)).mpr hq)
    have m12 : numT T x 0 < d.1 := by
      obtain ⟨j, g1, g2⟩ := inR_ex (by omega) (b2n_ne0 n12)
      have := (nI_eq (by omega) (by omega)).mp g2
      omega
    refine j_aload_n EE 1 dX2_readMark_17 rfl rfl ?_
    refine j_get (T := TX2) EE iw_X2_readMark_X2 0 rfl rfl 0 (by decide) lk_X2_readMark_11 rfl dX2_readMark_18 ?_
    refine j_iload_n EE 2 dX2_readMark_21 rfl rfl ?_
    refine j_cald EE 1 1 rfl rfl (vp_in_nI (n := x) (by omega) (by decide)) dX2_readMark_22 ?_
    refine j_topE (congrArg (fun zz => nI (T zz)) (nI_clamp (n := x) (by omega))) ?_
    refine j_topE (y := nI (T x)) rfl ?_
    refine j_bipush (v := nI 111) EE dX2_readMark_23 (by decide) ?_
    refine j_icmp_ne EE 44 dX2_readMark_25 (by decide) (fun c25 => ?_) (fun c25 => ?_)
    · skip
      have n25 : (T x) ≠ 111 := fun hq => c25 ((nI_eq (a := (T x)) (b := 111) (by have := hT x; omega) (by have := hT x; omega)).mpr hq)
      refine j_aload_n EE 3 dX2_readMark_44 rfl rfl ?_
      refine j_aload_n EE 3 dX2_readMark_45 rfl rfl ?_
      refine j_get (T := TX1) EE iw_X2_readMark_X1 2 rfl rfl 3 (by decide) lk_X2_readMark_63 rfl dX2_readMark_46 ?_
      refine j_iload_n EE 0 dX2_readMark_49 rfl rfl ?_
      refine j_iconst (v := nI 1) EE dX2_readMark_50 (by decide) ?_
      refine j_SN2 (n9 := 4) EE (c_X9_withBit d.2.2.2.1 (numT T x 0) 1 (by have := num_lt (hd 0 (by omega)).2; omega) (by have := num_lt (hd 0 (by omega)).2; omega) (by have := num_lt (hd 0 (by omega)).2; omega)) gX2_readMark_X9_withBit_n59 hd_X9_withBit (by decide) mw_X2_readMark_iX9 mw_X2_readMark_s_X9_withBit rfl ⟨rfl, rfl⟩ ⟨by decide, by decide⟩ rfl [] rfl [0, 1, 2, 3] [(a, .inr (2, [.ref (tc), .int (nI le)])), (tc, .inl (cC, 200, .inl (fun zz => nI (T zz)))), (b, .inr (1, [.int (nI d.1), .int (nI d.2.1), .int (nI d.2.2.1), .int (nI d.2.2.2.1), .int (nI d.2.2.2.2.1), .ref (rb), .int (nI q), .long (lN S), .int (nI h)])), (rb, .inl (cI, 16, .inl (fun zz => nI (d.2.2.2.2.2 zz))))] (fun _ => rfl) [(a, .inr (2, [.ref (tc), .int (nI le)])), (tc, .inl (cC, 200, .inl (fun zz => nI (T zz)))), (b, .inr (1, [.int (nI d.1), .int (nI d.2.1), .int (nI d.2.2.1), .int (nI d.2.2.2.1), .int (nI d.2.2.2.2.1), .ref (rb), .int (nI q), .long (lN S), .int (nI h)])), (rb, .inl (cI, 16, .inl (fun zz => nI (d.2.2.2.2.2 zz))))] [a, tc, b, rb] rfl rfl rfl rfl rfl (by decide) (by decide) rfl (Nat.le_of_ble_eq_true rfl) dX2_readMark_51 (fun u_51 h_51 => ?_) rfl
      show J l _ D ε _ _ _ (.int (nI (wbit d.2.2.2.1 (numT T x 0) 1)) :: _)
      refine j_put (T := TX1) (ws' := [(a, .inr (2, [.ref (tc), .int (nI le)])), (tc, .inl (cC, 200, .inl (fun zz => nI (T zz)))), (b, .inr (1, [.int (nI d.1), .int (nI d.2.1), .int (nI d.2.2.1), .int (nI (wbit d.2.2.2.1 (numT T x 0) 1)), .int (nI d.2.2.2.2.1), .ref (rb), .int (nI q), .long (lN S), .int (nI h)])), (rb, .inl (cI, 16, .inl (fun zz => nI (d.2.2.2.2.2 zz))))]) EE iw_X2_readMark_X1 tyX1 tyX1_ok nmX1 2 rfl rfl 3 (by decide) lk_X2_readMark_63 rfl rfl rfl (Nat.le_of_ble_eq_true rfl) rfl dX2_readMark_54 ?_
      refine j_iconst (v := nI 1) EE dX2_readMark_57 (by decide) ?_
      have e1 : mrk T x d = some _ := if_pos m12
      exact j_zret EE FF (by decide) dX2_readMark_58 () trivial (by rw [e1]; rfl) (by rw [e1]; first | rw [if_pos n25]; rfl | rw [if_neg n25]; rfl)
    · skip
      have n25 : (T x) = 111 := (nI_eq (a := (T x)) (b := 111) (by have := hT x; omega) (by have := hT x; omega)).mp c25
      refine j_aload_n EE 3 dX2_readMark_28 rfl rfl ?_
      refine j_aload_n EE 3 dX2_readMark_29 rfl rfl ?_
      refine j_get (T := TX1) EE iw_X2_readMark_X1 2 rfl rfl 2 (by decide) lk_X2_readMark_56 rfl dX2_readMark_30 ?_
      refine j_iload_n EE 0 dX2_readMark_33 rfl rfl ?_
      refine j_iconst (v := nI 1) EE dX2_readMark_34 (by decide) ?_
      refine j_SN2 (n9 := 4) EE (c_X9_withBit d.2.2.1 (numT T x 0) 1 (by have := num_lt (hd 0 (by omega)).2; omega) (by have := num_lt (hd 0 (by omega)).2; omega) (by have := num_lt (hd 0 (by omega)).2; omega)) gX2_readMark_X9_withBit_n59 hd_X9_withBit (by decide) mw_X2_readMark_iX9 mw_X2_readMark_s_X9_withBit rfl ⟨rfl, rfl⟩ ⟨by decide, by decide⟩ rfl [] rfl [0, 1, 2, 3] [(a, .inr (2, [.ref (tc), .int (nI le)])), (tc, .inl (cC, 200, .inl (fun zz => nI (T zz)))), (b, .inr (1, [.int (nI d.1), .int (nI d.2.1), .int (nI d.2.2.1), .int (nI d.2.2.2.1), .int (nI d.2.2.2.2.1), .ref (rb), .int (nI q), .long (lN S), .int (nI h)])), (rb, .inl (cI, 16, .inl (fun zz => nI (d.2.2.2.2.2 zz))))] (fun _ => rfl) [(a, .inr (2, [.ref (tc), .int (nI le)])), (tc, .inl (cC, 200, .inl (fun zz => nI (T zz)))), (b, .inr (1, [.int (nI d.1), .int (nI d.2.1), .int (nI d.2.2.1), .int (nI d.2.2.2.1), .int (nI d.2.2.2.2.1), .ref (rb), .int (nI q), .long (lN S), .int (nI h)])), (rb, .inl (cI, 16, .inl (fun zz => nI (d.2.2.2.2.2 zz))))] [a, tc, b, rb] rfl rfl rfl rfl rfl (by decide) (by decide) rfl (Nat.le_of_ble_eq_true rfl) dX2_readMark_35 (fun u_35 h_35 => ?_) rfl
      show J l _ D ε _ _ _ (.int (nI (wbit d.2.2.1 (numT T x 0) 1)) :: _)
      refine j_put (T := TX1) (ws' := [(a, .inr (2, [.ref (tc), .int (nI le)])), (tc, .inl (cC, 200, .inl (fun zz => nI (T zz)))), (b, .inr (1, [.int (nI d.1), .int (nI d.2.1), .int (nI (wbit d.2.2.1 (numT T x 0) 1)), .int (nI d.2.2.2.1), .int (nI d.2.2.2.2.1), .ref (rb), .int (nI q), .long (lN S), .int (nI h)])), (rb, .inl (cI, 16, .inl (fun zz => nI (d.2.2.2.2.2 zz))))]) EE iw_X2_readMark_X1 tyX1 tyX1_ok nmX1 2 rfl rfl 2 (by decide) lk_X2_readMark_56 rfl rfl rfl (Nat.le_of_ble_eq_true rfl) rfl dX2_readMark_38 ?_
      refine j_goto EE 57 dX2_readMark_41 (by decide) ?_
      refine j_iconst (v := nI 1) EE dX2_readMark_57 (by decide) ?_
      have e1 : mrk T x d = some _ := if_pos m12
      exact j_zret EE FF (by decide) dX2_readMark_58 () trivial (by rw [e1]; rfl) (by rw [e1]; first | rw [if_pos n25]; rfl | rw [if_neg n25]; rfl)
  · skip
    have n12 : (b2n (inR (nI (numT T x 0)) d.1)) = 0 := (nI_eq (a := (b2n (inR (nI (numT T x 0)) d.1))) (b := 0) (by have := b2n_lt (inR (nI (numT T x 0)) d.1); omega) (by have := b2n_lt (inR (nI (numT T x 0)) d.1); omega)).mp c12
    have m12 : ¬ numT T x 0 < d.1 := fun hz => absurd (b2n_0 n12) (by rw [inR_nI hz (by omega)]; decide)
    refine j_iconst (v := nI 0) EE dX2_readMark_15 (by decide) ?_
    have e1 : mrk T x d = none := if_neg m12
    exact j_zret EE FF (by decide) dX2_readMark_16 () trivial (by rw [e1]; rfl) (by rw [e1]; rfl)

theorem hd_X1_ruleError : yX1_ruleError.cls ≠ "java/lang/invoke/MethodHandle" ∧ yX1_ruleError.cls ≠ "java/lang/invoke/VarHandle" ∧ (parseMethodDescriptor yX1_ruleError.desc).map (fun d => d.parameters.length) = some 5 := by decide +kernel
theorem hd_X5_of : yX5_of.cls ≠ "java/lang/invoke/MethodHandle" ∧ yX5_of.cls ≠ "java/lang/invoke/VarHandle" ∧ (parseMethodDescriptor yX5_of.desc).map (fun d => d.parameters.length) = some 5 := by decide +kernel
theorem hd_X1_takeRule : yX1_takeRule.cls ≠ "java/lang/invoke/MethodHandle" ∧ yX1_takeRule.cls ≠ "java/lang/invoke/VarHandle" ∧ (parseMethodDescriptor yX1_takeRule.desc).map (fun d => d.parameters.length) = some 1 := by decide +kernel
set_option maxHeartbeats 4000000 in
set_option maxRecDepth 100000 in
theorem c_X2_readRule (a tc le : Nat) (T : Nat → Nat) (b rb : Nat) (d : DS) (q S h : Nat) (hd0 : dOk d) (x m : Nat) (hm3 : 3 ≤ m) (hm5 : m ≤ 5) (hd : ∀ i, i < m → 48 ≤ T (x + 1 + 2 * i) ∧ T (x + 1 + 2 * i) ≤ 57) (hx : x + 2 * m ≤ 200) : Ct l yX2_readRule wsX2_readRule (rmD (3)) D [(cI, .int), (cC, .char), (cJ, .long), (cG, .object "PushdownGameSolver$Game")] [.ref (a), .int (nI x), .int (nI m), .ref (b)] [(a, .inr (2, [.ref (tc), .int (nI le)])), (tc, .inl (cC, 200, .inl (fun zz => nI (T zz)))), (b, .inr (1, [.int (nI d.1), .int (nI d.2.1), .int (nI d.2.2.1), .int (nI d.2.2.2.1), .int (nI d.2.2.2.2.1), .ref (rb), .int (nI q), .long (lN S), .int (nI h)])), (rb, .inl (cI, 16, .inl (fun zz => nI (d.2.2.2.2.2 zz))))] (S := Unit) (fun _ => True) (fun _ => some (.int (nI (b2n (rul T x m d).isSome)))) (fun _ => [(a, .inr (2, [.ref (tc), .int (nI le)])), (tc, .inl (cC, 200, .inl (fun zz => nI (T zz)))), (b, .inr (1, [.int (nI (((rul T x m d).getD d).1)), .int (nI (((rul T x m d).getD d).2.1)), .int (nI (((rul T x m d).getD d).2.2.1)), .int (nI (((rul T x m d).getD d).2.2.2.1)), .int (nI (((rul T x m d).getD d).2.2.2.2.1)), .ref (rb), .int (nI q), .long (lN S), .int (nI h)])), (rb, .inl (cI, 16, .inl (fun zz => nI (((rul T x m d).getD d).2.2.2.2.2 zz))))]) := by
  refine Ct.of (lv := [(0, .ref (a)), (1, .int (nI x)), (2, .int (nI m)), (3, .ref (b))]) (by decide) rfl (Nat.le_of_ble_eq_true rfl) rfl ?_
  intro ε hL EE FF
  obtain ⟨k1, k2, k3, k4, k5, k6⟩ := id hd0
  have Lp_58 : J l (rmD (3)) D ε [(a, .inr (2, [.ref (tc), .int (nI le)])), (tc, .inl (cC, 200, .inl (fun zz => nI (T zz)))), (b, .inr (1, [.int (nI d.1), .int (nI d.2.1), .int (nI d.2.2.1), .int (nI d.2.2.2.1), .int (nI d.2.2.2.2.1), .ref (rb), .int (nI q), .long (lN S), .int (nI h)])), (rb, .inl (cI, 16, .inl (fun zz => nI (d.2.2.2.2.2 zz))))] 58 [(8, .int (nI (ruV T x m 4) - nI 1)), (7, .int (nI (ruV T x m 3) - nI 1)), (6, .int (nI (numT T x 2))), (5, .int (nI (numT T x 1))), (4, .int (nI (numT T x 0))), (0, .ref (a)), (1, .int (nI x)), (2, .int (nI m)), (3, .ref (b))] [] := by
    skip
    have hn0 := num_lt (hd 0 (by omega)).2
    have hn1 := num_lt (hd 1 (by omega)).2
    have hn2 := num_lt (hd 2 (by omega)).2
    have hu3 : ruV T x m 3 < 11 := by
      unfold ruV; split
      · have := num_lt (hd 3 (by omega)).2; omega
      · omega
    have hu4 : ruV T x m 4 < 11 := by
      unfold ruV; split
      · have := num_lt (hd 4 (by omega)).2; omega
      · omega
    refine j_aload_n EE 8 dX2_readRule_58 rfl rfl ?_
    refine j_iload EE 4 dX2_readRule_59 rfl ?_
    refine j_iload EE 3 dX2_readRule_61 rfl ?_
    refine j_iload EE 2 dX2_readRule_63 rfl ?_
    refine j_iload EE 1 dX2_readRule_65 rfl ?_
    refine j_iload EE 0 dX2_readRule_67 rfl ?_
    refine j_V2 (n9 := 4) EE (c_X1_ruleError b rb d.1 d.2.1 d.2.2.1 d.2.2.2.1 d.2.2.2.2.1 q S h d.2.2.2.2.2 (nI (numT T x 0)) (nI (numT T x 1)) (nI (numT T x 2)) (nI (ruV T x m 3) - nI 1) (nI (ruV T x m 4) - nI 1) (by have := num_lt (hd 0 (by omega)).2; have := num_lt (hd 1 (by omega)).2; have := num_lt (hd 2 (by omega)).2; omega) (by have := num_lt (hd 0 (by omega)).2; have := num_lt (hd 1 (by omega)).2; have := num_lt (hd 2 (by omega)).2; omega) (by have := num_lt (hd 0 (by omega)).2; have := num_lt (hd 1 (by omega)).2; have := num_lt (hd 2 (by omega)).2; omega) hd0.2.2.2.2.2) gX2_readRule_X1_ruleError ⟨rfl, hd_X1_ruleError⟩ rfl ⟨rfl, rfl⟩ ⟨by decide, by decide⟩ rfl [2, 3] rfl [0, 1] [(a, .inr (2, [.ref (tc), .int (nI le)])), (tc, .inl (cC, 200, .inl (fun zz => nI (T zz)))), (b, .inr (1, [.int (nI d.1), .int (nI d.2.1), .int (nI d.2.2.1), .int (nI d.2.2.2.1), .int (nI d.2.2.2.2.1), .ref (rb), .int (nI q), .long (lN S), .int (nI h)])), (rb, .inl (cI, 16, .inl (fun zz => nI (d.2.2.2.2.2 zz))))] (fun _ => rfl) [(a, .inr (2, [.ref (tc), .int (nI le)])), (tc, .inl (cC, 200, .inl (fun zz => nI (T zz))))] [a, tc, b, rb] rfl rfl rfl rfl rfl (by decide) (by decide) 0 rfl rfl rfl (Nat.le_of_ble_eq_true rfl) dX2_readRule_69 (fun u_69 h_69 => ?_) rfl
    show J l _ D ε _ _ _ (.int (rErr d.2.2.2.2.2 d.2.2.2.2.1 d.1 d.2.1 (nI (numT T x 0)) (nI (numT T x 1)) (nI (numT T x 2)) (nI (ruV T x m 3) - nI 1) (nI (ruV T x m 4) - nI 1)) :: _)
    refine j_if_eq EE 77 dX2_readRule_72 (by decide) (fun c72 => ?_) (fun c72 => ?_)
    · skip
      have m72 := (rErr_0 (by omega) (by omega) (by omega) (by omega) (by omega) (by omega) (by omega)).mp c72
      refine j_aload_n EE 8 dX2_readRule_77 rfl rfl ?_
      refine j_iload EE 4 dX2_readRule_78 rfl ?_
      refine j_iload EE 3 dX2_readRule_80 rfl ?_
      refine j_iload EE 2 dX2_readRule_82 rfl ?_
      refine j_iload EE 1 dX2_readRule_84 rfl ?_
      refine j_iload EE 0 dX2_readRule_86 rfl ?_
      refine j_S2 (n9 := 4) EE (c_X5_of (numT T x 0) (numT T x 1) (numT T x 2) (ruV T x m 3) (ruV T x m 4) (by omega) (by omega) (by omega) (by omega) (by omega)) gX2_readRule_X5_of hd_X5_of rfl ⟨rfl, rfl⟩ ⟨by decide, by decide⟩ rfl [] rfl [0, 1, 2, 3] [(a, .inr (2, [.ref (tc), .int (nI le)])), (tc, .inl (cC, 200, .inl (fun zz => nI (T zz)))), (b, .inr (1, [.int (nI d.1), .int (nI d.2.1), .int (nI d.2.2.1), .int (nI d.2.2.2.1), .int (nI d.2.2.2.2.1), .ref (rb), .int (nI q), .long (lN S), .int (nI h)])), (rb, .inl (cI, 16, .inl (fun zz => nI (d.2.2.2.2.2 zz))))] (fun _ => rfl) [(a, .inr (2, [.ref (tc), .int (nI le)])), (tc, .inl (cC, 200, .inl (fun zz => nI (T zz)))), (b, .inr (1, [.int (nI d.1), .int (nI d.2.1), .int (nI d.2.2.1), .int (nI d.2.2.2.1), .int (nI d.2.2.2.2.1), .ref (rb), .int (nI q), .long (lN S), .int (nI h)])), (rb, .inl (cI, 16, .inl (fun zz => nI (d.2.2.2.2.2 zz))))] [a, tc, b, rb] rfl rfl rfl rfl rfl (by decide) (by decide) rfl (Nat.le_of_ble_eq_true rfl) dX2_readRule_88 (fun u_88 h_88 => ?_) rfl
      show J l _ D ε _ _ _ (.int (nI (rcode (numT T x 0) (numT T x 1) (numT T x 2) (ruV T x m 3) (ruV T x m 4))) :: _)
      refine j_V2 (n9 := 4) EE (c_X1_takeRule b rb d.1 d.2.1 d.2.2.1 d.2.2.2.1 d.2.2.2.2.1 q S h d.2.2.2.2.2 (rcode (numT T x 0) (numT T x 1) (numT T x 2) (ruV T x m 3) (ruV T x m 4)) (by omega)) gX2_readRule_X1_takeRule ⟨rfl, hd_X1_takeRule⟩ rfl ⟨rfl, rfl⟩ ⟨by decide, by decide⟩ rfl [2, 3] rfl [0, 1] [(a, .inr (2, [.ref (tc), .int (nI le)])), (tc, .inl (cC, 200, .inl (fun zz => nI (T zz)))), (b, .inr (1, [.int (nI d.1), .int (nI d.2.1), .int (nI d.2.2.1), .int (nI d.2.2.2.1), .int (nI (d.2.2.2.2.1 + 1)), .ref (rb), .int (nI q), .long (lN S), .int (nI h)])), (rb, .inl (cI, 16, .inl (fun zz => nI ((updN d.2.2.2.2.2 d.2.2.2.2.1 (rcode (numT T x 0) (numT T x 1) (numT T x 2) (ruV T x m 3) (ruV T x m 4))) zz))))] (fun _ => rfl) [(a, .inr (2, [.ref (tc), .int (nI le)])), (tc, .inl (cC, 200, .inl (fun zz => nI (T zz))))] [a, tc, b, rb] rfl rfl rfl rfl rfl (by decide) (by decide) 0 rfl rfl rfl (Nat.le_of_ble_eq_true rfl) dX2_readRule_91 (fun u_91 h_91 => ?_) rfl
      refine j_iconst (v := nI 1) EE dX2_readRule_94 (by decide) ?_
      have e1 : rul T x m d = some _ := if_pos ⟨m72.1, m72.2.1, m72.2.2.1, m72.2.2.2.1, m72.2.2.2.2.1, m72.2.2.2.2.2.2.1, m72.2.2.2.2.2.2.2⟩
      exact j_zret EE FF (by decide) dX2_readRule_95 () trivial (by rw [e1]; rfl) (by rw [e1]; rfl)
    · skip
      have m72 := fun hz => c72 ((rErr_0 (by omega) (by omega) (by omega) (by omega) (by omega) (by omega) (by omega)).mpr hz)
      refine j_iconst (v := nI 0) EE dX2_readRule_75 (by decide) ?_
      have e1 : rul T x m d = none := if_neg (fun hz => m72 ⟨hz.1, hz.2.1, hz.2.2.1, hz.2.2.2.1, hz.2.2.2.2.1, ruV_z, hz.2.2.2.2.2.1, hz.2.2.2.2.2.2⟩)
      exact j_zret EE FF (by decide) dX2_readRule_76 () trivial (by rw [e1]; rfl) (by rw [e1]; rfl)
  have Lp_41 : J l (rmD (3)) D ε [(a, .inr (2, [.ref (tc), .int (nI le)])), (tc, .inl (cC, 200, .inl (fun zz => nI (T zz)))), (b, .inr (1, [.int (nI d.1), .int (nI d.2.1), .int (nI d.2.2.1), .int (nI d.2.2.2.1), .int (nI d.2.2.2.2.1), .ref (rb), .int (nI q), .long (lN S), .int (nI h)])), (rb, .inl (cI, 16, .inl (fun zz => nI (d.2.2.2.2.2 zz))))] 41 [(7, .int (nI (ruV T x m 3) - nI 1)), (6, .int (nI (numT T x 2))), (5, .int (nI (numT T x 1))), (4, .int (nI (numT T x 0))), (0, .ref (a)), (1, .int (nI x)), (2, .int (nI m)), (3, .ref (b))] [] := by
    skip
    refine j_iload_n EE 6 dX2_readRule_41 rfl rfl ?_
    refine j_iconst (v := nI 4) EE dX2_readRule_42 (by decide) ?_
    refine j_icmp_le EE 55 dX2_readRule_43 (by decide) (fun c43 => ?_) (fun c43 => ?_)
    · skip
      have n43 : m ≤ 4 := (nI_leI (a := m) (b := 4) (by omega) (by omega)).mp c43
      refine j_iconst (v := (-1)) EE dX2_readRule_55 (by decide) ?_
      refine j_topE (y := nI (ruV T x m 4) - nI 1) (by rw [show ruV T x m 4 = 0 from if_neg (by omega)]; decide) ?_
      refine j_istore EE [(8, _), (7, _), (6, _), (5, _), (4, _), (0, _), (1, _), (2, _), (3, _)] dX2_readRule_56 (Nat.lt_of_lt_of_eq (by decide) hL.symm) rfl ?_
      exact Lp_58 
    · skip
      have n43 : ¬ m ≤ 4 := fun hq => c43 ((nI_leI (a := m) (b := 4) (by omega) (by omega)).mpr hq)
      refine j_aload_n EE 4 dX2_readRule_46 rfl rfl ?_
      refine j_iload_n EE 5 dX2_readRule_47 rfl rfl ?_
      refine j_iconst (v := nI 4) EE dX2_readRule_48 (by decide) ?_
      refine j_V2 (n9 := 4) EE (c_X2_number a tc le T x 4 (hd 4 (by omega)).1 (hd 4 (by omega)).2 (by omega)) gX2_readRule_X2_number ⟨rfl, hd_X2_number⟩ rfl ⟨rfl, rfl⟩ ⟨by decide, by decide⟩ rfl [0, 1] rfl [2, 3] [(a, .inr (2, [.ref (tc), .int (nI le)])), (tc, .inl (cC, 200, .inl (fun zz => nI (T zz)))), (b, .inr (1, [.int (nI d.1), .int (nI d.2.1), .int (nI d.2.2.1), .int (nI d.2.2.2.1), .int (nI d.2.2.2.2.1), .ref (rb), .int (nI q), .long (lN S), .int (nI h)])), (rb, .inl (cI, 16, .inl (fun zz => nI (d.2.2.2.2.2 zz))))] (fun _ => rfl) [(b, .inr (1, [.int (nI d.1), .int (nI d.2.1), .int (nI d.2.2.1), .int (nI d.2.2.2.1), .int (nI d.2.2.2.2.1), .ref (rb), .int (nI q), .long (lN S), .int (nI h)])), (rb, .inl (cI, 16, .inl (fun zz => nI (d.2.2.2.2.2 zz))))] [a, tc, b, rb] rfl rfl rfl rfl rfl (by decide) (by decide) 0 rfl rfl rfl (Nat.le_of_ble_eq_true rfl) dX2_readRule_49 (fun u_49 h_49 => ?_) rfl
      show J l _ D ε _ _ _ (.int (nI (numT T x 4)) :: _)
      refine j_goto EE 56 dX2_readRule_52 (by decide) ?_
      refine j_topE (y := nI (ruV T x m 4) - nI 1) (by rw [show ruV T x m 4 = numT T x 4 + 1 from if_pos (by omega), nI_p1]) ?_
      refine j_istore EE [(8, _), (7, _), (6, _), (5, _), (4, _), (0, _), (1, _), (2, _), (3, _)] dX2_readRule_56 (Nat.lt_of_lt_of_eq (by decide) hL.symm) rfl ?_
      exact Lp_58 
  refine j_aload_n EE 0 dX2_readRule_0 rfl rfl ?_
  refine j_iload_n EE 1 dX2_readRule_1 rfl rfl ?_
  refine j_iconst (v := nI 0) EE dX2_readRule_2 (by decide) ?_
  refine j_V2 (n9 := 4) EE (c_X2_number a tc le T x 0 (hd 0 (by omega)).1 (hd 0 (by omega)).2 (by omega)) gX2_readRule_X2_number ⟨rfl, hd_X2_number⟩ rfl ⟨rfl, rfl⟩ ⟨by decide, by decide⟩ rfl [0, 1] rfl [2, 3] [(a, .inr (2, [.ref (tc), .int (nI le)])), (tc, .inl (cC, 200, .inl (fun zz => nI (T zz)))), (b, .inr (1, [.int (nI d.1), .int (nI d.2.1), .int (nI d.2.2.1), .int (nI d.2.2.2.1), .int (nI d.2.2.2.2.1), .ref (rb), .int (nI q), .long (lN S), .int (nI h)])), (rb, .inl (cI, 16, .inl (fun zz => nI (d.2.2.2.2.2 zz))))] (fun _ => rfl) [(b, .inr (1, [.int (nI d.1), .int (nI d.2.1), .int (nI d.2.2.1), .int (nI d.2.2.2.1), .int (nI d.2.2.2.2.1), .ref (rb), .int (nI q), .long (lN S), .int (nI h)])), (rb, .inl (cI, 16, .inl (fun zz => nI (d.2.2.2.2.2 zz))))] [a, tc, b, rb] rfl rfl rfl rfl rfl (by decide) (by decide) 0 rfl rfl rfl (Nat.le_of_ble_eq_true rfl) dX2_readRule_3 (fun u_3 h_3 => ?_) rfl
  show J l _ D ε _ _ _ (.int (nI (numT T x 0)) :: _)
  refine j_istore EE [(4, _), (0, _), (1, _), (2, _), (3, _)] dX2_readRule_6 (Nat.lt_of_lt_of_eq (by decide) hL.symm) rfl ?_
  refine j_aload_n EE 1 dX2_readRule_8 rfl rfl ?_
  refine j_iload_n EE 2 dX2_readRule_9 rfl rfl ?_
  refine j_iconst (v := nI 1) EE dX2_readRule_10 (by decide) ?_
  refine j_V2 (n9 := 4) EE (c_X2_number a tc le T x 1 (hd 1 (by omega)).1 (hd 1 (by omega)).2 (by omega)) gX2_readRule_X2_number ⟨rfl, hd_X2_number⟩ rfl ⟨rfl, rfl⟩ ⟨by decide, by decide⟩ rfl [0, 1] rfl [2, 3] [(a, .inr (2, [.ref (tc), .int (nI le)])), (tc, .inl (cC, 200, .inl (fun zz => nI (T zz)))), (b, .inr (1, [.int (nI d.1), .int (nI d.2.1), .int (nI d.2.2.1), .int (nI d.2.2.2.1), .int (nI d.2.2.2.2.1), .ref (rb), .int (nI q), .long (lN S), .int (nI h)])), (rb, .inl (cI, 16, .inl (fun zz => nI (d.2.2.2.2.2 zz))))] (fun _ => rfl) [(b, .inr (1, [.int (nI d.1), .int (nI d.2.1), .int (nI d.2.2.1), .int (nI d.2.2.2.1), .int (nI d.2.2.2.2.1), .ref (rb), .int (nI q), .long (lN S), .int (nI h)])), (rb, .inl (cI, 16, .inl (fun zz => nI (d.2.2.2.2.2 zz))))] [a, tc, b, rb] rfl rfl rfl rfl rfl (by decide) (by decide) 0 rfl rfl rfl (Nat.le_of_ble_eq_true rfl) dX2_readRule_11 (fun u_11 h_11 => ?_) rfl
  show J l _ D ε _ _ _ (.int (nI (numT T x 1)) :: _)
  refine j_istore EE [(5, _), (4, _), (0, _), (1, _), (2, _), (3, _)] dX2_readRule_14 (Nat.lt_of_lt_of_eq (by decide) hL.symm) rfl ?_
  refine j_aload_n EE 2 dX2_readRule_16 rfl rfl ?_
  refine j_iload_n EE 3 dX2_readRule_17 rfl rfl ?_
  refine j_iconst (v := nI 2) EE dX2_readRule_18 (by decide) ?_
  refine j_V2 (n9 := 4) EE (c_X2_number a tc le T x 2 (hd 2 (by omega)).1 (hd 2 (by omega)).2 (by omega)) gX2_readRule_X2_number ⟨rfl, hd_X2_number⟩ rfl ⟨rfl, rfl⟩ ⟨by decide, by decide⟩ rfl [0, 1] rfl [2, 3] [(a, .inr (2, [.ref (tc), .int (nI le)])), (tc, .inl (cC, 200, .inl (fun zz => nI (T zz)))), (b, .inr (1, [.int (nI d.1), .int (nI d.2.1), .int (nI d.2.2.1), .int (nI d.2.2.2.1), .int (nI d.2.2.2.2.1), .ref (rb), .int (nI q), .long (lN S), .int (nI h)])), (rb, .inl (cI, 16, .inl (fun zz => nI (d.2.2.2.2.2 zz))))] (fun _ => rfl) [(b, .inr (1, [.int (nI d.1), .int (nI d.2.1), .int (nI d.2.2.1), .int (nI d.2.2.2.1), .int (nI d.2.2.2.2.1), .ref (rb), .int (nI q), .long (lN S), .int (nI h)])), (rb, .inl (cI, 16, .inl (fun zz => nI (d.2.2.2.2.2 zz))))] [a, tc, b, rb] rfl rfl rfl rfl rfl (by decide) (by decide) 0 rfl rfl rfl (Nat.le_of_ble_eq_true rfl) dX2_readRule_19 (fun u_19 h_19 => ?_) rfl
  show J l _ D ε _ _ _ (.int (nI (numT T x 2)) :: _)
  refine j_istore EE [(6, _), (5, _), (4, _), (0, _), (1, _), (2, _), (3, _)] dX2_readRule_22 (Nat.lt_of_lt_of_eq (by decide) hL.symm) rfl ?_
  refine j_iload_n EE 5 dX2_readRule_24 rfl rfl ?_
  refine j_iconst (v := nI 3) EE dX2_readRule_25 (by decide) ?_
  refine j_icmp_le EE 38 dX2_readRule_26 (by decide) (fun c26 => ?_) (fun c26 => ?_)
  · skip
    have n26 : m ≤ 3 := (nI_leI (a := m) (b := 3) (by omega) (by omega)).mp c26
    refine j_iconst (v := (-1)) EE dX2_readRule_38 (by decide) ?_
    refine j_topE (y := nI (ruV T x m 3) - nI 1) (by rw [show ruV T x m 3 = 0 from if_neg (by omega)]; decide) ?_
    refine j_istore EE [(7, _), (6, _), (5, _), (4, _), (0, _), (1, _), (2, _), (3, _)] dX2_readRule_39 (Nat.lt_of_lt_of_eq (by decide) hL.symm) rfl ?_
    exact Lp_41 
  · skip
    have n26 : ¬ m ≤ 3 := fun hq => c26 ((nI_leI (a := m) (b := 3) (by omega) (by omega)).mpr hq)
    refine j_aload_n EE 3 dX2_readRule_29 rfl rfl ?_
    refine j_iload_n EE 4 dX2_readRule_30 rfl rfl ?_
    refine j_iconst (v := nI 3) EE dX2_readRule_31 (by decide) ?_
    refine j_V2 (n9 := 4) EE (c_X2_number a tc le T x 3 (hd 3 (by omega)).1 (hd 3 (by omega)).2 (by omega)) gX2_readRule_X2_number ⟨rfl, hd_X2_number⟩ rfl ⟨rfl, rfl⟩ ⟨by decide, by decide⟩ rfl [0, 1] rfl [2, 3] [(a, .inr (2, [.ref (tc), .int (nI le)])), (tc, .inl (cC, 200, .inl (fun zz => nI (T zz)))), (b, .inr (1, [.int (nI d.1), .int (nI d.2.1), .int (nI d.2.2.1), .int (nI d.2.2.2.1), .int (nI d.2.2.2.2.1), .ref (rb), .int (nI q), .long (lN S), .int (nI h)])), (rb, .inl (cI, 16, .inl (fun zz => nI (d.2.2.2.2.2 zz))))] (fun _ => rfl) [(b, .inr (1, [.int (nI d.1), .int (nI d.2.1), .int (nI d.2.2.1), .int (nI d.2.2.2.1), .int (nI d.2.2.2.2.1), .ref (rb), .int (nI q), .long (lN S), .int (nI h)])), (rb, .inl (cI, 16, .inl (fun zz => nI (d.2.2.2.2.2 zz))))] [a, tc, b, rb] rfl rfl rfl rfl rfl (by decide) (by decide) 0 rfl rfl rfl (Nat.le_of_ble_eq_true rfl) dX2_readRule_32 (fun u_32 h_32 => ?_) rfl
    show J l _ D ε _ _ _ (.int (nI (numT T x 3)) :: _)
    refine j_goto EE 39 dX2_readRule_35 (by decide) ?_
    refine j_topE (y := nI (ruV T x m 3) - nI 1) (by rw [show ruV T x m 3 = numT T x 3 + 1 from if_pos (by omega), nI_p1]) ?_
    refine j_istore EE [(7, _), (6, _), (5, _), (4, _), (0, _), (1, _), (2, _), (3, _)] dX2_readRule_39 (Nat.lt_of_lt_of_eq (by decide) hL.symm) rfl ?_
    exact Lp_41 

theorem hd_X2_isKindWithNumbers : yX2_isKindWithNumbers.cls ≠ "java/lang/invoke/MethodHandle" ∧ yX2_isKindWithNumbers.cls ≠ "java/lang/invoke/VarHandle" ∧ (parseMethodDescriptor yX2_isKindWithNumbers.desc).map (fun d => d.parameters.length) = some 2 := by decide +kernel
theorem iw_X2_readStatement_X2 : ∀ w ∈ wsX20, w ∈ wsX2_readStatement := fun _ h => List.mem_cons_of_mem _ (List.mem_append_left _ (List.mem_append_right _ h))
theorem lk_X2_readStatement_11 : Cond.fieldLink RX2 11 (TX2 0).1 (TX2 0).2.1 (TX2 0).2.2.1 ∈ wsX2_readStatement := List.mem_of_getElem? (i := 1) rfl
theorem hd_X2_readMark : yX2_readMark.cls ≠ "java/lang/invoke/MethodHandle" ∧ yX2_readMark.cls ≠ "java/lang/invoke/VarHandle" ∧ (parseMethodDescriptor yX2_readMark.desc).map (fun d => d.parameters.length) = some 2 := by decide +kernel
theorem hd_X2_readRule : yX2_readRule.cls ≠ "java/lang/invoke/MethodHandle" ∧ yX2_readRule.cls ≠ "java/lang/invoke/VarHandle" ∧ (parseMethodDescriptor yX2_readRule.desc).map (fun d => d.parameters.length) = some 3 := by decide +kernel
theorem hd_X2_readSizes : yX2_readSizes.cls ≠ "java/lang/invoke/MethodHandle" ∧ yX2_readSizes.cls ≠ "java/lang/invoke/VarHandle" ∧ (parseMethodDescriptor yX2_readSizes.desc).map (fun d => d.parameters.length) = some 2 := by decide +kernel
set_option maxHeartbeats 4000000 in
set_option maxRecDepth 100000 in
theorem c_X2_readStatement (a tc le : Nat) (T : Nat → Nat) (b rb : Nat) (d : DS) (q S h : Nat) (hd0 : dOk d) (x y : Nat) (hxy : x ≤ y) (hy : y < 200) (hT : ∀ i, T i < 65536) : Ct l yX2_readStatement wsX2_readStatement (rmD (4)) D [(cI, .int), (cC, .char), (cJ, .long), (cG, .object "PushdownGameSolver$Game")] [.ref (a), .int (nI x), .int (nI y), .ref (b)] [(a, .inr (2, [.ref (tc), .int (nI le)])), (tc, .inl (cC, 200, .inl (fun zz => nI (T zz)))), (b, .inr (1, [.int (nI d.1), .int (nI d.2.1), .int (nI d.2.2.1), .int (nI d.2.2.2.1), .int (nI d.2.2.2.2.1), .ref (rb), .int (nI q), .long (lN S), .int (nI h)])), (rb, .inl (cI, 16, .inl (fun zz => nI (d.2.2.2.2.2 zz))))] (S := Unit) (fun _ => True) (fun _ => some (.int (nI (b2n (stm T x y d).isSome)))) (fun _ => [(a, .inr (2, [.ref (tc), .int (nI le)])), (tc, .inl (cC, 200, .inl (fun zz => nI (T zz)))), (b, .inr (1, [.int (nI (((stm T x y d).getD d).1)), .int (nI (((stm T x y d).getD d).2.1)), .int (nI (((stm T x y d).getD d).2.2.1)), .int (nI (((stm T x y d).getD d).2.2.2.1)), .int (nI (((stm T x y d).getD d).2.2.2.2.1)), .ref (rb), .int (nI q), .long (lN S), .int (nI h)])), (rb, .inl (cI, 16, .inl (fun zz => nI (((stm T x y d).getD d).2.2.2.2.2 zz))))]) := by
  refine Ct.of (lv := [(0, .ref (a)), (1, .int (nI x)), (2, .int (nI y)), (3, .ref (b))]) (by decide) rfl (Nat.le_of_ble_eq_true rfl) rfl ?_
  intro ε hL EE FF
  obtain ⟨k1, k2, k3, k4, k5, k6⟩ := id hd0
  refine j_aload_n EE 0 dX2_readStatement_0 rfl rfl ?_
  refine j_iload_n EE 1 dX2_readStatement_1 rfl rfl ?_
  refine j_iload_n EE 2 dX2_readStatement_2 rfl rfl ?_
  refine j_V2 (n9 := 4) EE (c_X2_isKindWithNumbers a tc le T x y (by omega) (by omega) hT) gX2_readStatement_X2_isKindWithNumbers ⟨rfl, hd_X2_isKindWithNumbers⟩ rfl ⟨rfl, rfl⟩ ⟨by decide, by decide⟩ rfl [0, 1] rfl [2, 3] [(a, .inr (2, [.ref (tc), .int (nI le)])), (tc, .inl (cC, 200, .inl (fun zz => nI (T zz)))), (b, .inr (1, [.int (nI d.1), .int (nI d.2.1), .int (nI d.2.2.1), .int (nI d.2.2.2.1), .int (nI d.2.2.2.2.1), .ref (rb), .int (nI q), .long (lN S), .int (nI h)])), (rb, .inl (cI, 16, .inl (fun zz => nI (d.2.2.2.2.2 zz))))] (fun _ => rfl) [(b, .inr (1, [.int (nI d.1), .int (nI d.2.1), .int (nI d.2.2.1), .int (nI d.2.2.2.1), .int (nI d.2.2.2.2.1), .ref (rb), .int (nI q), .long (lN S), .int (nI h)])), (rb, .inl (cI, 16, .inl (fun zz => nI (d.2.2.2.2.2 zz))))] [a, tc, b, rb] rfl rfl rfl rfl rfl (by decide) (by decide) 0 rfl rfl rfl (Nat.le_of_ble_eq_true rfl) dX2_readStatement_3 (fun u_3 h_3 => ?_) rfl
  show J l _ D ε _ _ _ (.int (nI (b2n (kwn T x y))) :: _)
  refine j_if_ne EE 11 dX2_readStatement_6 (by decide) (fun c6 => ?_) (fun c6 => ?_)
  · skip
    have n6 : (b2n (kwn T x y)) ≠ 0 := fun hq => c6 ((nI_eq (a := (b2n (kwn T x y))) (b := 0) (by have := b2n_lt (kwn T x y); omega) (by have := b2n_lt (kwn T x y); omega)).mpr hq)
    have hdg := kwn_dig (b2n_ne0 n6)
    have hkw : 2 ≤ y - x ∧ (y - x) % 2 = 0 := by
      have hz := b2n_ne0 n6
      unfold kwn at hz
      simp only [Bool.and_eq_true, decide_eq_true_eq] at hz
      exact ⟨hz.1.1, hz.1.2⟩
    refine j_aload_n EE 0 dX2_readStatement_11 rfl rfl ?_
    refine j_get (T := TX2) EE iw_X2_readStatement_X2 0 rfl rfl 0 (by decide) lk_X2_readStatement_11 rfl dX2_readStatement_12 ?_
    refine j_iload_n EE 1 dX2_readStatement_15 rfl rfl ?_
    refine j_cald EE 1 1 rfl rfl (vp_in_nI (n := x) (by omega) (by decide)) dX2_readStatement_16 ?_
    refine j_topE (congrArg (fun zz => nI (T zz)) (nI_clamp (n := x) (by omega))) ?_
    refine j_topE (y := nI (T x)) rfl ?_
    refine j_istore EE [(4, _), (0, _), (1, _), (2, _), (3, _)] dX2_readStatement_17 (Nat.lt_of_lt_of_eq (by decide) hL.symm) rfl ?_
    refine j_iload EE 0 dX2_readStatement_19 rfl ?_
    refine j_bipush (v := nI 103) EE dX2_readStatement_21 (by decide) ?_
    refine j_icmp_ne EE 30 dX2_readStatement_23 (by decide) (fun c23 => ?_) (fun c23 => ?_)
    · skip
      have n23 : (T x) ≠ 103 := fun hq => c23 ((nI_eq (a := (T x)) (b := 103) (by have := hT x; omega) (by have := hT x; omega)).mpr hq)
      refine j_iconst (v := nI 0) EE dX2_readStatement_30 (by decide) ?_
      refine j_iload_n EE 2 dX2_readStatement_31 rfl rfl ?_
      refine j_if_ne EE 39 dX2_readStatement_32 (by decide) (fun c32 => ?_) (fun c32 => ?_)
      · skip
        have n32 : x ≠ 0 := fun hq => c32 ((nI_eq (a := x) (b := 0) (by omega) (by omega)).mpr hq)
        refine j_iconst (v := nI 0) EE dX2_readStatement_39 (by decide) ?_
        refine j_icmp_eq EE 45 dX2_readStatement_40 (by decide) (fun c40 => ?_) (fun c40 => absurd (by decide) c40)
        have n40 : 0 = 0 := (nI_eq (a := 0) (b := 0) (by omega) (by omega)).mp c40
        refine j_iload_n EE 3 dX2_readStatement_45 rfl rfl ?_
        refine j_iload_n EE 2 dX2_readStatement_46 rfl rfl ?_
        refine j_isub EE dX2_readStatement_47 ?_
        refine j_topE (pk_sub (a := y) (b := x) (by omega)) ?_
        refine j_iconst (v := nI 2) EE dX2_readStatement_48 (by decide) ?_
        refine j_idiv EE (by decide) dX2_readStatement_49 ?_
        refine j_topE (y := nI ((y - x) / 2)) (pk_div (by omega) (by decide) (by decide)) ?_
        refine j_istore EE [(5, _), (4, _), (0, _), (1, _), (2, _), (3, _)] dX2_readStatement_50 (Nat.lt_of_lt_of_eq (by decide) hL.symm) rfl ?_
        refine j_iload EE 1 dX2_readStatement_52 rfl ?_
        refine j_bipush (v := nI 103) EE dX2_readStatement_54 (by decide) ?_
        refine j_icmp_ne EE 80 dX2_readStatement_56 (by decide) (fun c56 => ?_) (fun c56 => ?_)
        · skip
          have n56 : (T x) ≠ 103 := fun hq => c56 ((nI_eq (a := (T x)) (b := 103) (by have := hT x; omega) (by have := hT x; omega)).mpr hq)
          refine j_iload EE 1 dX2_readStatement_80 rfl ?_
          refine j_bipush (v := nI 111) EE dX2_readStatement_82 (by decide) ?_
          refine j_icmp_eq EE 94 dX2_readStatement_84 (by decide) (fun c84 => ?_) (fun c84 => ?_)
          · skip
            have n84 : (T x) = 111 := (nI_eq (a := (T x)) (b := 111) (by have := hT x; omega) (by have := hT x; omega)).mp c84
            refine j_iload EE 0 dX2_readStatement_94 rfl ?_
            refine j_iconst (v := nI 1) EE dX2_readStatement_96 (by decide) ?_
            refine j_icmp_ne EE 113 dX2_readStatement_97 (by decide) (fun c97 => ?_) (fun c97 => ?_)
            · skip
              have n97 : ((y - x) / 2) ≠ 1 := fun hq => c97 ((nI_eq (a := ((y - x) / 2)) (b := 1) (by omega) (by omega)).mpr hq)
              refine j_iconst (v := nI 0) EE dX2_readStatement_113 (by decide) ?_
              have e1 : stm T x y d = none := by
                unfold stm; first | rw [if_neg (by rw [b2n_0 n6]; decide)] | (rw [if_pos (b2n_ne0 n6)]; first | rw [if_neg (by omega)] | (rw [if_pos (by omega)]; first | (rw [if_pos (by omega), if_neg (by omega)]) | (rw [if_pos (by omega), if_pos (by omega)]; exact Option.not_isSome_iff_eq_none.mp (by simp [b2n_0 n71])) | (rw [if_neg (by omega), if_pos (by omega), if_neg (by omega)]) | (rw [if_neg (by omega), if_pos (by omega), if_pos (by omega)]; exact Option.not_isSome_iff_eq_none.mp (by simp [b2n_0 n106])) | (rw [if_neg (by omega), if_neg (by omega), if_neg (by omega)]) | (rw [if_neg (by omega), if_neg (by omega), if_pos (by omega)]; exact Option.not_isSome_iff_eq_none.mp (by simp [b2n_0 n142]))))
              exact j_zret EE FF (by decide) dX2_readStatement_114 () trivial (by rw [e1]; rfl) (by rw [e1]; rfl)
            · skip
              have n97 : ((y - x) / 2) = 1 := (nI_eq (a := ((y - x) / 2)) (b := 1) (by omega) (by omega)).mp c97
              refine j_aload_n EE 2 dX2_readStatement_100 rfl rfl ?_
              refine j_iload_n EE 3 dX2_readStatement_101 rfl rfl ?_
              refine j_aload_n EE 5 dX2_readStatement_102 rfl rfl ?_
              refine j_V2 (n9 := 4) EE (c_X2_readMark a tc le T b rb d q S h hd0 x (fun i hi => hdg i (by omega)) (by omega) hT) gX2_readStatement_X2_readMark ⟨rfl, hd_X2_readMark⟩ rfl ⟨rfl, rfl⟩ ⟨by decide, by decide⟩ rfl [0, 1, 2, 3] rfl [] [(a, .inr (2, [.ref (tc), .int (nI le)])), (tc, .inl (cC, 200, .inl (fun zz => nI (T zz)))), (b, .inr (1, [.int (nI (((mrk T x d).getD d).1)), .int (nI (((mrk T x d).getD d).2.1)), .int (nI (((mrk T x d).getD d).2.2.1)), .int (nI (((mrk T x d).getD d).2.2.2.1)), .int (nI (((mrk T x d).getD d).2.2.2.2.1)), .ref (rb), .int (nI q), .long (lN S), .int (nI h)])), (rb, .inl (cI, 16, .inl (fun zz => nI (((mrk T x d).getD d).2.2.2.2.2 zz))))] (fun _ => rfl) [] [a, tc, b, rb] rfl rfl rfl rfl rfl (by decide) (by decide) 0 rfl rfl rfl (Nat.le_of_ble_eq_true rfl) dX2_readStatement_103 (fun u_103 h_103 => ?_) rfl
              show J l _ D ε _ _ _ (.int (nI (b2n (mrk T x d).isSome)) :: _)
              refine j_if_eq EE 113 dX2_readStatement_106 (by decide) (fun c106 => ?_) (fun c106 => ?_)
              · skip
                have n106 : (b2n (mrk T x d).isSome) = 0 := (nI_eq (a := (b2n (mrk T x d).isSome)) (b := 0) (by have := b2n_lt (mrk T x d).isSome; omega) (by have := b2n_lt (mrk T x d).isSome; omega)).mp c106
                refine j_iconst (v := nI 0) EE dX2_readStatement_113 (by decide) ?_
                have e1 : stm T x y d = none := by
                  unfold stm; first | rw [if_neg (by rw [b2n_0 n6]; decide)] | (rw [if_pos (b2n_ne0 n6)]; first | rw [if_neg (by omega)] | (rw [if_pos (by omega)]; first | (rw [if_pos (by omega), if_neg (by omega)]) | (rw [if_pos (by omega), if_pos (by omega)]; exact Option.not_isSome_iff_eq_none.mp (by simp [b2n_0 n71])) | (rw [if_neg (by omega), if_pos (by omega), if_neg (by omega)]) | (rw [if_neg (by omega), if_pos (by omega), if_pos (by omega)]; exact Option.not_isSome_iff_eq_none.mp (by simp [b2n_0 n106])) | (rw [if_neg (by omega), if_neg (by omega), if_neg (by omega)]) | (rw [if_neg (by omega), if_neg (by omega), if_pos (by omega)]; exact Option.not_isSome_iff_eq_none.mp (by simp [b2n_0 n142]))))
                have e2 : mrk T x d = none := Option.not_isSome_iff_eq_none.mp (by simp [b2n_0 n106])
                exact j_zret EE FF (by decide) dX2_readStatement_114 () trivial (by rw [e1]; rfl) (by rw [e1, e2] <;> rfl)
              · skip
                have n106 : (b2n (mrk T x d).isSome) ≠ 0 := fun hq => c106 ((nI_eq (a := (b2n (mrk T x d).isSome)) (b := 0) (by have := b2n_lt (mrk T x d).isSome; omega) (by have := b2n_lt (mrk T x d).isSome; omega)).mpr hq)
                refine j_iconst (v := nI 1) EE dX2_readStatement_109 (by decide) ?_
                refine j_goto EE 114 dX2_readStatement_110 (by decide) ?_
                have e1 : stm T x y d = mrk T x d := by
                  unfold stm; rw [if_pos (b2n_ne0 n6), if_pos (by omega), if_neg (by omega), if_pos (by omega), if_pos (by omega)]
                exact j_zret EE FF (by decide) dX2_readStatement_114 () trivial (by rw [e1, b2n_ne0 n106]; rfl) (by rw [e1])
          · skip
            have n84 : (T x) ≠ 111 := fun hq => c84 ((nI_eq (a := (T x)) (b := 111) (by have := hT x; omega) (by have := hT x; omega)).mpr hq)
            refine j_iload EE 1 dX2_readStatement_87 rfl ?_
            refine j_bipush (v := nI 116) EE dX2_readStatement_89 (by decide) ?_
            refine j_icmp_ne EE 115 dX2_readStatement_91 (by decide) (fun c91 => ?_) (fun c91 => ?_)
            · skip
              have n91 : (T x) ≠ 116 := fun hq => c91 ((nI_eq (a := (T x)) (b := 116) (by have := hT x; omega) (by have := hT x; omega)).mpr hq)
              refine j_iload EE 1 dX2_readStatement_115 rfl ?_
              refine j_bipush (v := nI 114) EE dX2_readStatement_117 (by decide) ?_
              refine j_icmp_ne EE 149 dX2_readStatement_119 (by decide) (fun c119 => ?_) (fun c119 => ?_)
              · skip
                have n119 : (T x) ≠ 114 := fun hq => c119 ((nI_eq (a := (T x)) (b := 114) (by have := hT x; omega) (by have := hT x; omega)).mpr hq)
                refine j_iconst (v := nI 0) EE dX2_readStatement_149 (by decide) ?_
                have e1 : stm T x y d = none := by
                  unfold stm; first | rw [if_neg (by rw [b2n_0 n6]; decide)] | (rw [if_pos (b2n_ne0 n6)]; first | rw [if_neg (by omega)] | (rw [if_pos (by omega)]; first | (rw [if_pos (by omega), if_neg (by omega)]) | (rw [if_pos (by omega), if_pos (by omega)]; exact Option.not_isSome_iff_eq_none.mp (by simp [b2n_0 n71])) | (rw [if_neg (by omega), if_pos (by omega), if_neg (by omega)]) | (rw [if_neg (by omega), if_pos (by omega), if_pos (by omega)]; exact Option.not_isSome_iff_eq_none.mp (by simp [b2n_0 n106])) | (rw [if_neg (by omega), if_neg (by omega), if_neg (by omega)]) | (rw [if_neg (by omega), if_neg (by omega), if_pos (by omega)]; exact Option.not_isSome_iff_eq_none.mp (by simp [b2n_0 n142]))))
                exact j_zret EE FF (by decide) dX2_readStatement_150 () trivial (by rw [e1]; rfl) (by rw [e1]; rfl)
              · skip
                have n119 : (T x) = 114 := (nI_eq (a := (T x)) (b := 114) (by have := hT x; omega) (by have := hT x; omega)).mp c119
                refine j_iload EE 0 dX2_readStatement_122 rfl ?_
                refine j_iconst (v := nI 3) EE dX2_readStatement_124 (by decide) ?_
                refine j_icmp_lt EE 149 dX2_readStatement_125 (by decide) (fun c125 => ?_) (fun c125 => ?_)
                · skip
                  have n125 : ((y - x) / 2) < 3 := (nI_ltI (a := ((y - x) / 2)) (b := 3) (by omega) (by omega)).mp c125
                  refine j_iconst (v := nI 0) EE dX2_readStatement_149 (by decide) ?_
                  have e1 : stm T x y d = none := by
                    unfold stm; first | rw [if_neg (by rw [b2n_0 n6]; decide)] | (rw [if_pos (b2n_ne0 n6)]; first | rw [if_neg (by omega)] | (rw [if_pos (by omega)]; first | (rw [if_pos (by omega), if_neg (by omega)]) | (rw [if_pos (by omega), if_pos (by omega)]; exact Option.not_isSome_iff_eq_none.mp (by simp [b2n_0 n71])) | (rw [if_neg (by omega), if_pos (by omega), if_neg (by omega)]) | (rw [if_neg (by omega), if_pos (by omega), if_pos (by omega)]; exact Option.not_isSome_iff_eq_none.mp (by simp [b2n_0 n106])) | (rw [if_neg (by omega), if_neg (by omega), if_neg (by omega)]) | (rw [if_neg (by omega), if_neg (by omega), if_pos (by omega)]; exact Option.not_isSome_iff_eq_none.mp (by simp [b2n_0 n142]))))
                  exact j_zret EE FF (by decide) dX2_readStatement_150 () trivial (by rw [e1]; rfl) (by rw [e1]; rfl)
                · skip
                  have n125 : ¬ ((y - x) / 2) < 3 := fun hq => c125 ((nI_ltI (a := ((y - x) / 2)) (b := 3) (by omega) (by omega)).mpr hq)
                  refine j_iload EE 0 dX2_readStatement_128 rfl ?_
                  refine j_iconst (v := nI 5) EE dX2_readStatement_130 (by decide) ?_
                  refine j_icmp_gt EE 149 dX2_readStatement_131 (by decide) (fun c131 => ?_) (fun c131 => ?_)
                  · skip
                    have n131 : 5 < ((y - x) / 2) := (nI_ltI (a := 5) (b := ((y - x) / 2)) (by omega) (by omega)).mp c131
                    refine j_iconst (v := nI 0) EE dX2_readStatement_149 (by decide) ?_
                    have e1 : stm T x y d = none := by
                      unfold stm; first | rw [if_neg (by rw [b2n_0 n6]; decide)] | (rw [if_pos (b2n_ne0 n6)]; first | rw [if_neg (by omega)] | (rw [if_pos (by omega)]; first | (rw [if_pos (by omega), if_neg (by omega)]) | (rw [if_pos (by omega), if_pos (by omega)]; exact Option.not_isSome_iff_eq_none.mp (by simp [b2n_0 n71])) | (rw [if_neg (by omega), if_pos (by omega), if_neg (by omega)]) | (rw [if_neg (by omega), if_pos (by omega), if_pos (by omega)]; exact Option.not_isSome_iff_eq_none.mp (by simp [b2n_0 n106])) | (rw [if_neg (by omega), if_neg (by omega), if_neg (by omega)]) | (rw [if_neg (by omega), if_neg (by omega), if_pos (by omega)]; exact Option.not_isSome_iff_eq_none.mp (by simp [b2n_0 n142]))))
                    exact j_zret EE FF (by decide) dX2_readStatement_150 () trivial (by rw [e1]; rfl) (by rw [e1]; rfl)
                  · skip
                    have n131 : ¬ 5 < ((y - x) / 2) := fun hq => c131 ((nI_ltI (a := 5) (b := ((y - x) / 2)) (by omega) (by omega)).mpr hq)
                    refine j_aload_n EE 2 dX2_readStatement_134 rfl rfl ?_
                    refine j_iload_n EE 3 dX2_readStatement_135 rfl rfl ?_
                    refine j_iload EE 0 dX2_readStatement_136 rfl ?_
                    refine j_aload_n EE 5 dX2_readStatement_138 rfl rfl ?_
                    refine j_V2 (n9 := 4) EE (c_X2_readRule a tc le T b rb d q S h hd0 x ((y - x) / 2) (by omega) (by omega) (fun i hi => hdg i (by omega)) (by omega)) gX2_readStatement_X2_readRule ⟨rfl, hd_X2_readRule⟩ rfl ⟨rfl, rfl⟩ ⟨by decide, by decide⟩ rfl [0, 1, 2, 3] rfl [] [(a, .inr (2, [.ref (tc), .int (nI le)])), (tc, .inl (cC, 200, .inl (fun zz => nI (T zz)))), (b, .inr (1, [.int (nI (((rul T x ((y - x) / 2) d).getD d).1)), .int (nI (((rul T x ((y - x) / 2) d).getD d).2.1)), .int (nI (((rul T x ((y - x) / 2) d).getD d).2.2.1)), .int (nI (((rul T x ((y - x) / 2) d).getD d).2.2.2.1)), .int (nI (((rul T x ((y - x) / 2) d).getD d).2.2.2.2.1)), .ref (rb), .int (nI q), .long (lN S), .int (nI h)])), (rb, .inl (cI, 16, .inl (fun zz => nI (((rul T x ((y - x) / 2) d).getD d).2.2.2.2.2 zz))))] (fun _ => rfl) [] [a, tc, b, rb] rfl rfl rfl rfl rfl (by decide) (by decide) 0 rfl rfl rfl (Nat.le_of_ble_eq_true rfl) dX2_readStatement_139 (fun u_139 h_139 => ?_) rfl
                    show J l _ D ε _ _ _ (.int (nI (b2n (rul T x ((y - x) / 2) d).isSome)) :: _)
                    refine j_if_eq EE 149 dX2_readStatement_142 (by decide) (fun c142 => ?_) (fun c142 => ?_)
                    · skip
                      have n142 : (b2n (rul T x ((y - x) / 2) d).isSome) = 0 := (nI_eq (a := (b2n (rul T x ((y - x) / 2) d).isSome)) (b := 0) (by have := b2n_lt (rul T x ((y - x) / 2) d).isSome; omega) (by have := b2n_lt (rul T x ((y - x) / 2) d).isSome; omega)).mp c142
                      refine j_iconst (v := nI 0) EE dX2_readStatement_149 (by decide) ?_
                      have e1 : stm T x y d = none := by
                        unfold stm; first | rw [if_neg (by rw [b2n_0 n6]; decide)] | (rw [if_pos (b2n_ne0 n6)]; first | rw [if_neg (by omega)] | (rw [if_pos (by omega)]; first | (rw [if_pos (by omega), if_neg (by omega)]) | (rw [if_pos (by omega), if_pos (by omega)]; exact Option.not_isSome_iff_eq_none.mp (by simp [b2n_0 n71])) | (rw [if_neg (by omega), if_pos (by omega), if_neg (by omega)]) | (rw [if_neg (by omega), if_pos (by omega), if_pos (by omega)]; exact Option.not_isSome_iff_eq_none.mp (by simp [b2n_0 n106])) | (rw [if_neg (by omega), if_neg (by omega), if_neg (by omega)]) | (rw [if_neg (by omega), if_neg (by omega), if_pos (by omega)]; exact Option.not_isSome_iff_eq_none.mp (by simp [b2n_0 n142]))))
                      have e2 : rul T x ((y - x) / 2) d = none := Option.not_isSome_iff_eq_none.mp (by simp [b2n_0 n142])
                      exact j_zret EE FF (by decide) dX2_readStatement_150 () trivial (by rw [e1]; rfl) (by rw [e1, e2] <;> rfl)
                    · skip
                      have n142 : (b2n (rul T x ((y - x) / 2) d).isSome) ≠ 0 := fun hq => c142 ((nI_eq (a := (b2n (rul T x ((y - x) / 2) d).isSome)) (b := 0) (by have := b2n_lt (rul T x ((y - x) / 2) d).isSome; omega) (by have := b2n_lt (rul T x ((y - x) / 2) d).isSome; omega)).mpr hq)
                      refine j_iconst (v := nI 1) EE dX2_readStatement_145 (by decide) ?_
                      refine j_goto EE 150 dX2_readStatement_146 (by decide) ?_
                      have e1 : stm T x y d = rul T x ((y - x) / 2) d := by
                        unfold stm; rw [if_pos (b2n_ne0 n6), if_pos (by omega), if_neg (by omega), if_neg (by omega), if_pos (by omega)]
                      exact j_zret EE FF (by decide) dX2_readStatement_150 () trivial (by rw [e1, b2n_ne0 n142]; rfl) (by rw [e1])
            · skip
              have n91 : (T x) = 116 := (nI_eq (a := (T x)) (b := 116) (by have := hT x; omega) (by have := hT x; omega)).mp c91
              refine j_iload EE 0 dX2_readStatement_94 rfl ?_
              refine j_iconst (v := nI 1) EE dX2_readStatement_96 (by decide) ?_
              refine j_icmp_ne EE 113 dX2_readStatement_97 (by decide) (fun c97 => ?_) (fun c97 => ?_)
              · skip
                have n97 : ((y - x) / 2) ≠ 1 := fun hq => c97 ((nI_eq (a := ((y - x) / 2)) (b := 1) (by omega) (by omega)).mpr hq)
                refine j_iconst (v := nI 0) EE dX2_readStatement_113 (by decide) ?_
                have e1 : stm T x y d = none := by
                  unfold stm; first | rw [if_neg (by rw [b2n_0 n6]; decide)] | (rw [if_pos (b2n_ne0 n6)]; first | rw [if_neg (by omega)] | (rw [if_pos (by omega)]; first | (rw [if_pos (by omega), if_neg (by omega)]) | (rw [if_pos (by omega), if_pos (by omega)]; exact Option.not_isSome_iff_eq_none.mp (by simp [b2n_0 n71])) | (rw [if_neg (by omega), if_pos (by omega), if_neg (by omega)]) | (rw [if_neg (by omega), if_pos (by omega), if_pos (by omega)]; exact Option.not_isSome_iff_eq_none.mp (by simp [b2n_0 n106])) | (rw [if_neg (by omega), if_neg (by omega), if_neg (by omega)]) | (rw [if_neg (by omega), if_neg (by omega), if_pos (by omega)]; exact Option.not_isSome_iff_eq_none.mp (by simp [b2n_0 n142]))))
                exact j_zret EE FF (by decide) dX2_readStatement_114 () trivial (by rw [e1]; rfl) (by rw [e1]; rfl)
              · skip
                have n97 : ((y - x) / 2) = 1 := (nI_eq (a := ((y - x) / 2)) (b := 1) (by omega) (by omega)).mp c97
                refine j_aload_n EE 2 dX2_readStatement_100 rfl rfl ?_
                refine j_iload_n EE 3 dX2_readStatement_101 rfl rfl ?_
                refine j_aload_n EE 5 dX2_readStatement_102 rfl rfl ?_
                refine j_V2 (n9 := 4) EE (c_X2_readMark a tc le T b rb d q S h hd0 x (fun i hi => hdg i (by omega)) (by omega) hT) gX2_readStatement_X2_readMark ⟨rfl, hd_X2_readMark⟩ rfl ⟨rfl, rfl⟩ ⟨by decide, by decide⟩ rfl [0, 1, 2, 3] rfl [] [(a, .inr (2, [.ref (tc), .int (nI le)])), (tc, .inl (cC, 200, .inl (fun zz => nI (T zz)))), (b, .inr (1, [.int (nI (((mrk T x d).getD d).1)), .int (nI (((mrk T x d).getD d).2.1)), .int (nI (((mrk T x d).getD d).2.2.1)), .int (nI (((mrk T x d).getD d).2.2.2.1)), .int (nI (((mrk T x d).getD d).2.2.2.2.1)), .ref (rb), .int (nI q), .long (lN S), .int (nI h)])), (rb, .inl (cI, 16, .inl (fun zz => nI (((mrk T x d).getD d).2.2.2.2.2 zz))))] (fun _ => rfl) [] [a, tc, b, rb] rfl rfl rfl rfl rfl (by decide) (by decide) 0 rfl rfl rfl (Nat.le_of_ble_eq_true rfl) dX2_readStatement_103 (fun u_103 h_103 => ?_) rfl
                show J l _ D ε _ _ _ (.int (nI (b2n (mrk T x d).isSome)) :: _)
                refine j_if_eq EE 113 dX2_readStatement_106 (by decide) (fun c106 => ?_) (fun c106 => ?_)
                · skip
                  have n106 : (b2n (mrk T x d).isSome) = 0 := (nI_eq (a := (b2n (mrk T x d).isSome)) (b := 0) (by have := b2n_lt (mrk T x d).isSome; omega) (by have := b2n_lt (mrk T x d).isSome; omega)).mp c106
                  refine j_iconst (v := nI 0) EE dX2_readStatement_113 (by decide) ?_
                  have e1 : stm T x y d = none := by
                    unfold stm; first | rw [if_neg (by rw [b2n_0 n6]; decide)] | (rw [if_pos (b2n_ne0 n6)]; first | rw [if_neg (by omega)] | (rw [if_pos (by omega)]; first | (rw [if_pos (by omega), if_neg (by omega)]) | (rw [if_pos (by omega), if_pos (by omega)]; exact Option.not_isSome_iff_eq_none.mp (by simp [b2n_0 n71])) | (rw [if_neg (by omega), if_pos (by omega), if_neg (by omega)]) | (rw [if_neg (by omega), if_pos (by omega), if_pos (by omega)]; exact Option.not_isSome_iff_eq_none.mp (by simp [b2n_0 n106])) | (rw [if_neg (by omega), if_neg (by omega), if_neg (by omega)]) | (rw [if_neg (by omega), if_neg (by omega), if_pos (by omega)]; exact Option.not_isSome_iff_eq_none.mp (by simp [b2n_0 n142]))))
                  have e2 : mrk T x d = none := Option.not_isSome_iff_eq_none.mp (by simp [b2n_0 n106])
                  exact j_zret EE FF (by decide) dX2_readStatement_114 () trivial (by rw [e1]; rfl) (by rw [e1, e2] <;> rfl)
                · skip
                  have n106 : (b2n (mrk T x d).isSome) ≠ 0 := fun hq => c106 ((nI_eq (a := (b2n (mrk T x d).isSome)) (b := 0) (by have := b2n_lt (mrk T x d).isSome; omega) (by have := b2n_lt (mrk T x d).isSome; omega)).mpr hq)
                  refine j_iconst (v := nI 1) EE dX2_readStatement_109 (by decide) ?_
                  refine j_goto EE 114 dX2_readStatement_110 (by decide) ?_
                  have e1 : stm T x y d = mrk T x d := by
                    unfold stm; rw [if_pos (b2n_ne0 n6), if_pos (by omega), if_neg (by omega), if_pos (by omega), if_pos (by omega)]
                  exact j_zret EE FF (by decide) dX2_readStatement_114 () trivial (by rw [e1, b2n_ne0 n106]; rfl) (by rw [e1])
        · skip
          have n56 : (T x) = 103 := (nI_eq (a := (T x)) (b := 103) (by have := hT x; omega) (by have := hT x; omega)).mp c56
          refine j_iload EE 0 dX2_readStatement_59 rfl ?_
          refine j_iconst (v := nI 2) EE dX2_readStatement_61 (by decide) ?_
          refine j_icmp_ne EE 78 dX2_readStatement_62 (by decide) (fun c62 => ?_) (fun c62 => ?_)
          · skip
            have n62 : ((y - x) / 2) ≠ 2 := fun hq => c62 ((nI_eq (a := ((y - x) / 2)) (b := 2) (by omega) (by omega)).mpr hq)
            refine j_iconst (v := nI 0) EE dX2_readStatement_78 (by decide) ?_
            have e1 : stm T x y d = none := by
              unfold stm; first | rw [if_neg (by rw [b2n_0 n6]; decide)] | (rw [if_pos (b2n_ne0 n6)]; first | rw [if_neg (by omega)] | (rw [if_pos (by omega)]; first | (rw [if_pos (by omega), if_neg (by omega)]) | (rw [if_pos (by omega), if_pos (by omega)]; exact Option.not_isSome_iff_eq_none.mp (by simp [b2n_0 n71])) | (rw [if_neg (by omega), if_pos (by omega), if_neg (by omega)]) | (rw [if_neg (by omega), if_pos (by omega), if_pos (by omega)]; exact Option.not_isSome_iff_eq_none.mp (by simp [b2n_0 n106])) | (rw [if_neg (by omega), if_neg (by omega), if_neg (by omega)]) | (rw [if_neg (by omega), if_neg (by omega), if_pos (by omega)]; exact Option.not_isSome_iff_eq_none.mp (by simp [b2n_0 n142]))))
            exact j_zret EE FF (by decide) dX2_readStatement_79 () trivial (by rw [e1]; rfl) (by rw [e1]; rfl)
          · skip
            have n62 : ((y - x) / 2) = 2 := (nI_eq (a := ((y - x) / 2)) (b := 2) (by omega) (by omega)).mp c62
            refine j_aload_n EE 2 dX2_readStatement_65 rfl rfl ?_
            refine j_iload_n EE 3 dX2_readStatement_66 rfl rfl ?_
            refine j_aload_n EE 5 dX2_readStatement_67 rfl rfl ?_
            refine j_V2 (n9 := 4) EE (c_X2_readSizes a tc le T b rb d q S h hd0 x (fun i hi => hdg i (by omega)) (by omega)) gX2_readStatement_X2_readSizes ⟨rfl, hd_X2_readSizes⟩ rfl ⟨rfl, rfl⟩ ⟨by decide, by decide⟩ rfl [0, 1, 2, 3] rfl [] [(a, .inr (2, [.ref (tc), .int (nI le)])), (tc, .inl (cC, 200, .inl (fun zz => nI (T zz)))), (b, .inr (1, [.int (nI (((szs T x d).getD d).1)), .int (nI (((szs T x d).getD d).2.1)), .int (nI (((szs T x d).getD d).2.2.1)), .int (nI (((szs T x d).getD d).2.2.2.1)), .int (nI (((szs T x d).getD d).2.2.2.2.1)), .ref (rb), .int (nI q), .long (lN S), .int (nI h)])), (rb, .inl (cI, 16, .inl (fun zz => nI (((szs T x d).getD d).2.2.2.2.2 zz))))] (fun _ => rfl) [] [a, tc, b, rb] rfl rfl rfl rfl rfl (by decide) (by decide) 0 rfl rfl rfl (Nat.le_of_ble_eq_true rfl) dX2_readStatement_68 (fun u_68 h_68 => ?_) rfl
            show J l _ D ε _ _ _ (.int (nI (b2n (szs T x d).isSome)) :: _)
            refine j_if_eq EE 78 dX2_readStatement_71 (by decide) (fun c71 => ?_) (fun c71 => ?_)
            · skip
              have n71 : (b2n (szs T x d).isSome) = 0 := (nI_eq (a := (b2n (szs T x d).isSome)) (b := 0) (by have := b2n_lt (szs T x d).isSome; omega) (by have := b2n_lt (szs T x d).isSome; omega)).mp c71
              refine j_iconst (v := nI 0) EE dX2_readStatement_78 (by decide) ?_
              have e1 : stm T x y d = none := by
                unfold stm; first | rw [if_neg (by rw [b2n_0 n6]; decide)] | (rw [if_pos (b2n_ne0 n6)]; first | rw [if_neg (by omega)] | (rw [if_pos (by omega)]; first | (rw [if_pos (by omega), if_neg (by omega)]) | (rw [if_pos (by omega), if_pos (by omega)]; exact Option.not_isSome_iff_eq_none.mp (by simp [b2n_0 n71])) | (rw [if_neg (by omega), if_pos (by omega), if_neg (by omega)]) | (rw [if_neg (by omega), if_pos (by omega), if_pos (by omega)]; exact Option.not_isSome_iff_eq_none.mp (by simp [b2n_0 n106])) | (rw [if_neg (by omega), if_neg (by omega), if_neg (by omega)]) | (rw [if_neg (by omega), if_neg (by omega), if_pos (by omega)]; exact Option.not_isSome_iff_eq_none.mp (by simp [b2n_0 n142]))))
              have e2 : szs T x d = none := Option.not_isSome_iff_eq_none.mp (by simp [b2n_0 n71])
              exact j_zret EE FF (by decide) dX2_readStatement_79 () trivial (by rw [e1]; rfl) (by rw [e1, e2] <;> rfl)
            · skip
              have n71 : (b2n (szs T x d).isSome) ≠ 0 := fun hq => c71 ((nI_eq (a := (b2n (szs T x d).isSome)) (b := 0) (by have := b2n_lt (szs T x d).isSome; omega) (by have := b2n_lt (szs T x d).isSome; omega)).mpr hq)
              refine j_iconst (v := nI 1) EE dX2_readStatement_74 (by decide) ?_
              refine j_goto EE 79 dX2_readStatement_75 (by decide) ?_
              have e1 : stm T x y d = szs T x d := by
                unfold stm; rw [if_pos (b2n_ne0 n6), if_pos (by omega), if_pos (by omega), if_pos (by omega)]
              exact j_zret EE FF (by decide) dX2_readStatement_79 () trivial (by rw [e1, b2n_ne0 n71]; rfl) (by rw [e1])
      · skip
        have n32 : x = 0 := (nI_eq (a := x) (b := 0) (by omega) (by omega)).mp c32
        refine j_iconst (v := nI 1) EE dX2_readStatement_35 (by decide) ?_
        refine j_goto EE 40 dX2_readStatement_36 (by decide) ?_
        refine j_icmp_eq EE 45 dX2_readStatement_40 (by decide) (fun c40 => absurd c40 (by decide)) (fun c40 => ?_)
        have n40 : 0 ≠ 1 := fun hq => c40 ((nI_eq (a := 0) (b := 1) (by omega) (by omega)).mpr hq)
        refine j_iconst (v := nI 0) EE dX2_readStatement_43 (by decide) ?_
        have e1 : stm T x y d = none := by
          unfold stm; first | rw [if_neg (by rw [b2n_0 n6]; decide)] | (rw [if_pos (b2n_ne0 n6)]; first | rw [if_neg (by omega)] | (rw [if_pos (by omega)]; first | (rw [if_pos (by omega), if_neg (by omega)]) | (rw [if_pos (by omega), if_pos (by omega)]; exact Option.not_isSome_iff_eq_none.mp (by simp [b2n_0 n71])) | (rw [if_neg (by omega), if_pos (by omega), if_neg (by omega)]) | (rw [if_neg (by omega), if_pos (by omega), if_pos (by omega)]; exact Option.not_isSome_iff_eq_none.mp (by simp [b2n_0 n106])) | (rw [if_neg (by omega), if_neg (by omega), if_neg (by omega)]) | (rw [if_neg (by omega), if_neg (by omega), if_pos (by omega)]; exact Option.not_isSome_iff_eq_none.mp (by simp [b2n_0 n142]))))
        exact j_zret EE FF (by decide) dX2_readStatement_44 () trivial (by rw [e1]; rfl) (by rw [e1]; rfl)
    · skip
      have n23 : (T x) = 103 := (nI_eq (a := (T x)) (b := 103) (by have := hT x; omega) (by have := hT x; omega)).mp c23
      refine j_iconst (v := nI 1) EE dX2_readStatement_26 (by decide) ?_
      refine j_goto EE 31 dX2_readStatement_27 (by decide) ?_
      refine j_iload_n EE 2 dX2_readStatement_31 rfl rfl ?_
      refine j_if_ne EE 39 dX2_readStatement_32 (by decide) (fun c32 => ?_) (fun c32 => ?_)
      · skip
        have n32 : x ≠ 0 := fun hq => c32 ((nI_eq (a := x) (b := 0) (by omega) (by omega)).mpr hq)
        refine j_iconst (v := nI 0) EE dX2_readStatement_39 (by decide) ?_
        refine j_icmp_eq EE 45 dX2_readStatement_40 (by decide) (fun c40 => absurd c40 (by decide)) (fun c40 => ?_)
        have n40 : 1 ≠ 0 := fun hq => c40 ((nI_eq (a := 1) (b := 0) (by omega) (by omega)).mpr hq)
        refine j_iconst (v := nI 0) EE dX2_readStatement_43 (by decide) ?_
        have e1 : stm T x y d = none := by
          unfold stm; first | rw [if_neg (by rw [b2n_0 n6]; decide)] | (rw [if_pos (b2n_ne0 n6)]; first | rw [if_neg (by omega)] | (rw [if_pos (by omega)]; first | (rw [if_pos (by omega), if_neg (by omega)]) | (rw [if_pos (by omega), if_pos (by omega)]; exact Option.not_isSome_iff_eq_none.mp (by simp [b2n_0 n71])) | (rw [if_neg (by omega), if_pos (by omega), if_neg (by omega)]) | (rw [if_neg (by omega), if_pos (by omega), if_pos (by omega)]; exact Option.not_isSome_iff_eq_none.mp (by simp [b2n_0 n106])) | (rw [if_neg (by omega), if_neg (by omega), if_neg (by omega)]) | (rw [if_neg (by omega), if_neg (by omega), if_pos (by omega)]; exact Option.not_isSome_iff_eq_none.mp (by simp [b2n_0 n142]))))
        exact j_zret EE FF (by decide) dX2_readStatement_44 () trivial (by rw [e1]; rfl) (by rw [e1]; rfl)
      · skip
        have n32 : x = 0 := (nI_eq (a := x) (b := 0) (by omega) (by omega)).mp c32
        refine j_iconst (v := nI 1) EE dX2_readStatement_35 (by decide) ?_
        refine j_goto EE 40 dX2_readStatement_36 (by decide) ?_
        refine j_icmp_eq EE 45 dX2_readStatement_40 (by decide) (fun c40 => ?_) (fun c40 => absurd (by decide) c40)
        have n40 : 1 = 1 := (nI_eq (a := 1) (b := 1) (by omega) (by omega)).mp c40
        refine j_iload_n EE 3 dX2_readStatement_45 rfl rfl ?_
        refine j_iload_n EE 2 dX2_readStatement_46 rfl rfl ?_
        refine j_isub EE dX2_readStatement_47 ?_
        refine j_topE (pk_sub (a := y) (b := x) (by omega)) ?_
        refine j_iconst (v := nI 2) EE dX2_readStatement_48 (by decide) ?_
        refine j_idiv EE (by decide) dX2_readStatement_49 ?_
        refine j_topE (y := nI ((y - x) / 2)) (pk_div (by omega) (by decide) (by decide)) ?_
        refine j_istore EE [(5, _), (4, _), (0, _), (1, _), (2, _), (3, _)] dX2_readStatement_50 (Nat.lt_of_lt_of_eq (by decide) hL.symm) rfl ?_
        refine j_iload EE 1 dX2_readStatement_52 rfl ?_
        refine j_bipush (v := nI 103) EE dX2_readStatement_54 (by decide) ?_
        refine j_icmp_ne EE 80 dX2_readStatement_56 (by decide) (fun c56 => ?_) (fun c56 => ?_)
        · skip
          have n56 : (T x) ≠ 103 := fun hq => c56 ((nI_eq (a := (T x)) (b := 103) (by have := hT x; omega) (by have := hT x; omega)).mpr hq)
          refine j_iload EE 1 dX2_readStatement_80 rfl ?_
          refine j_bipush (v := nI 111) EE dX2_readStatement_82 (by decide) ?_
          refine j_icmp_eq EE 94 dX2_readStatement_84 (by decide) (fun c84 => ?_) (fun c84 => ?_)
          · skip
            have n84 : (T x) = 111 := (nI_eq (a := (T x)) (b := 111) (by have := hT x; omega) (by have := hT x; omega)).mp c84
            refine j_iload EE 0 dX2_readStatement_94 rfl ?_
            refine j_iconst (v := nI 1) EE dX2_readStatement_96 (by decide) ?_
            refine j_icmp_ne EE 113 dX2_readStatement_97 (by decide) (fun c97 => ?_) (fun c97 => ?_)
            · skip
              have n97 : ((y - x) / 2) ≠ 1 := fun hq => c97 ((nI_eq (a := ((y - x) / 2)) (b := 1) (by omega) (by omega)).mpr hq)
              refine j_iconst (v := nI 0) EE dX2_readStatement_113 (by decide) ?_
              have e1 : stm T x y d = none := by
                unfold stm; first | rw [if_neg (by rw [b2n_0 n6]; decide)] | (rw [if_pos (b2n_ne0 n6)]; first | rw [if_neg (by omega)] | (rw [if_pos (by omega)]; first | (rw [if_pos (by omega), if_neg (by omega)]) | (rw [if_pos (by omega), if_pos (by omega)]; exact Option.not_isSome_iff_eq_none.mp (by simp [b2n_0 n71])) | (rw [if_neg (by omega), if_pos (by omega), if_neg (by omega)]) | (rw [if_neg (by omega), if_pos (by omega), if_pos (by omega)]; exact Option.not_isSome_iff_eq_none.mp (by simp [b2n_0 n106])) | (rw [if_neg (by omega), if_neg (by omega), if_neg (by omega)]) | (rw [if_neg (by omega), if_neg (by omega), if_pos (by omega)]; exact Option.not_isSome_iff_eq_none.mp (by simp [b2n_0 n142]))))
              exact j_zret EE FF (by decide) dX2_readStatement_114 () trivial (by rw [e1]; rfl) (by rw [e1]; rfl)
            · skip
              have n97 : ((y - x) / 2) = 1 := (nI_eq (a := ((y - x) / 2)) (b := 1) (by omega) (by omega)).mp c97
              refine j_aload_n EE 2 dX2_readStatement_100 rfl rfl ?_
              refine j_iload_n EE 3 dX2_readStatement_101 rfl rfl ?_
              refine j_aload_n EE 5 dX2_readStatement_102 rfl rfl ?_
              refine j_V2 (n9 := 4) EE (c_X2_readMark a tc le T b rb d q S h hd0 x (fun i hi => hdg i (by omega)) (by omega) hT) gX2_readStatement_X2_readMark ⟨rfl, hd_X2_readMark⟩ rfl ⟨rfl, rfl⟩ ⟨by decide, by decide⟩ rfl [0, 1, 2, 3] rfl [] [(a, .inr (2, [.ref (tc), .int (nI le)])), (tc, .inl (cC, 200, .inl (fun zz => nI (T zz)))), (b, .inr (1, [.int (nI (((mrk T x d).getD d).1)), .int (nI (((mrk T x d).getD d).2.1)), .int (nI (((mrk T x d).getD d).2.2.1)), .int (nI (((mrk T x d).getD d).2.2.2.1)), .int (nI (((mrk T x d).getD d).2.2.2.2.1)), .ref (rb), .int (nI q), .long (lN S), .int (nI h)])), (rb, .inl (cI, 16, .inl (fun zz => nI (((mrk T x d).getD d).2.2.2.2.2 zz))))] (fun _ => rfl) [] [a, tc, b, rb] rfl rfl rfl rfl rfl (by decide) (by decide) 0 rfl rfl rfl (Nat.le_of_ble_eq_true rfl) dX2_readStatement_103 (fun u_103 h_103 => ?_) rfl
              show J l _ D ε _ _ _ (.int (nI (b2n (mrk T x d).isSome)) :: _)
              refine j_if_eq EE 113 dX2_readStatement_106 (by decide) (fun c106 => ?_) (fun c106 => ?_)
              · skip
                have n106 : (b2n (mrk T x d).isSome) = 0 := (nI_eq (a := (b2n (mrk T x d).isSome)) (b := 0) (by have := b2n_lt (mrk T x d).isSome; omega) (by have := b2n_lt (mrk T x d).isSome; omega)).mp c106
                refine j_iconst (v := nI 0) EE dX2_readStatement_113 (by decide) ?_
                have e1 : stm T x y d = none := by
                  unfold stm; first | rw [if_neg (by rw [b2n_0 n6]; decide)] | (rw [if_pos (b2n_ne0 n6)]; first | rw [if_neg (by omega)] | (rw [if_pos (by omega)]; first | (rw [if_pos (by omega), if_neg (by omega)]) | (rw [if_pos (by omega), if_pos (by omega)]; exact Option.not_isSome_iff_eq_none.mp (by simp [b2n_0 n71])) | (rw [if_neg (by omega), if_pos (by omega), if_neg (by omega)]) | (rw [if_neg (by omega), if_pos (by omega), if_pos (by omega)]; exact Option.not_isSome_iff_eq_none.mp (by simp [b2n_0 n106])) | (rw [if_neg (by omega), if_neg (by omega), if_neg (by omega)]) | (rw [if_neg (by omega), if_neg (by omega), if_pos (by omega)]; exact Option.not_isSome_iff_eq_none.mp (by simp [b2n_0 n142]))))
                have e2 : mrk T x d = none := Option.not_isSome_iff_eq_none.mp (by simp [b2n_0 n106])
                exact j_zret EE FF (by decide) dX2_readStatement_114 () trivial (by rw [e1]; rfl) (by rw [e1, e2] <;> rfl)
              · skip
                have n106 : (b2n (mrk T x d).isSome) ≠ 0 := fun hq => c106 ((nI_eq (a := (b2n (mrk T x d).isSome)) (b := 0) (by have := b2n_lt (mrk T x d).isSome; omega) (by have := b2n_lt (mrk T x d).isSome; omega)).mpr hq)
                refine j_iconst (v := nI 1) EE dX2_readStatement_109 (by decide) ?_
                refine j_goto EE 114 dX2_readStatement_110 (by decide) ?_
                have e1 : stm T x y d = mrk T x d := by
                  unfold stm; rw [if_pos (b2n_ne0 n6), if_pos (by omega), if_neg (by omega), if_pos (by omega), if_pos (by omega)]
                exact j_zret EE FF (by decide) dX2_readStatement_114 () trivial (by rw [e1, b2n_ne0 n106]; rfl) (by rw [e1])
          · skip
            have n84 : (T x) ≠ 111 := fun hq => c84 ((nI_eq (a := (T x)) (b := 111) (by have := hT x; omega) (by have := hT x; omega)).mpr hq)
            refine j_iload EE 1 dX2_readStatement_87 rfl ?_
            refine j_bipush (v := nI 116) EE dX2_readStatement_89 (by decide) ?_
            refine j_icmp_ne EE 115 dX2_readStatement_91 (by decide) (fun c91 => ?_) (fun c91 => ?_)
            · skip
              have n91 : (T x) ≠ 116 := fun hq => c91 ((nI_eq (a := (T x)) (b := 116) (by have := hT x; omega) (by have := hT x; omega)).mpr hq)
              refine j_iload EE 1 dX2_readStatement_115 rfl ?_
              refine j_bipush (v := nI 114) EE dX2_readStatement_117 (by decide) ?_
              refine j_icmp_ne EE 149 dX2_readStatement_119 (by decide) (fun c119 => ?_) (fun c119 => ?_)
              · skip
                have n119 : (T x) ≠ 114 := fun hq => c119 ((nI_eq (a := (T x)) (b := 114) (by have := hT x; omega) (by have := hT x; omega)).mpr hq)
                refine j_iconst (v := nI 0) EE dX2_readStatement_149 (by decide) ?_
                have e1 : stm T x y d = none := by
                  unfold stm; first | rw [if_neg (by rw [b2n_0 n6]; decide)] | (rw [if_pos (b2n_ne0 n6)]; first | rw [if_neg (by omega)] | (rw [if_pos (by omega)]; first | (rw [if_pos (by omega), if_neg (by omega)]) | (rw [if_pos (by omega), if_pos (by omega)]; exact Option.not_isSome_iff_eq_none.mp (by simp [b2n_0 n71])) | (rw [if_neg (by omega), if_pos (by omega), if_neg (by omega)]) | (rw [if_neg (by omega), if_pos (by omega), if_pos (by omega)]; exact Option.not_isSome_iff_eq_none.mp (by simp [b2n_0 n106])) | (rw [if_neg (by omega), if_neg (by omega), if_neg (by omega)]) | (rw [if_neg (by omega), if_neg (by omega), if_pos (by omega)]; exact Option.not_isSome_iff_eq_none.mp (by simp [b2n_0 n142]))))
                exact j_zret EE FF (by decide) dX2_readStatement_150 () trivial (by rw [e1]; rfl) (by rw [e1]; rfl)
              · skip
                have n119 : (T x) = 114 := (nI_eq (a := (T x)) (b := 114) (by have := hT x; omega) (by have := hT x; omega)).mp c119
                refine j_iload EE 0 dX2_readStatement_122 rfl ?_
                refine j_iconst (v := nI 3) EE dX2_readStatement_124 (by decide) ?_
                refine j_icmp_lt EE 149 dX2_readStatement_125 (by decide) (fun c125 => ?_) (fun c125 => ?_)
                · skip
                  have n125 : ((y - x) / 2) < 3 := (nI_ltI (a := ((y - x) / 2)) (b := 3) (by omega) (by omega)).mp c125
                  refine j_iconst (v := nI 0) EE dX2_readStatement_149 (by decide) ?_
                  have e1 : stm T x y d = none := by
                    unfold stm; first | rw [if_neg (by rw [b2n_0 n6]; decide)] | (rw [if_pos (b2n_ne0 n6)]; first | rw [if_neg (by omega)] | (rw [if_pos (by omega)]; first | (rw [if_pos (by omega), if_neg (by omega)]) | (rw [if_pos (by omega), if_pos (by omega)]; exact Option.not_isSome_iff_eq_none.mp (by simp [b2n_0 n71])) | (rw [if_neg (by omega), if_pos (by omega), if_neg (by omega)]) | (rw [if_neg (by omega), if_pos (by omega), if_pos (by omega)]; exact Option.not_isSome_iff_eq_none.mp (by simp [b2n_0 n106])) | (rw [if_neg (by omega), if_neg (by omega), if_neg (by omega)]) | (rw [if_neg (by omega), if_neg (by omega), if_pos (by omega)]; exact Option.not_isSome_iff_eq_none.mp (by simp [b2n_0 n142]))))
                  exact j_zret EE FF (by decide) dX2_readStatement_150 () trivial (by rw [e1]; rfl) (by rw [e1]; rfl)
                · skip
                  have n125 : ¬ ((y - x) / 2) < 3 := fun hq => c125 ((nI_ltI (a := ((y - x) / 2)) (b := 3) (by omega) (by omega)).mpr hq)
                  refine j_iload EE 0 dX2_readStatement_128 rfl ?_
                  refine j_iconst (v := nI 5) EE dX2_readStatement_130 (by decide) ?_
                  refine j_icmp_gt EE 149 dX2_readStatement_131 (by decide) (fun c131 => ?_) (fun c131 => ?_)
                  · skip
                    have n131 : 5 < ((y - x) / 2) := (nI_ltI (a := 5) (b := ((y - x) / 2)) (by omega) (by omega)).mp c131
                    refine j_iconst (v := nI 0) EE dX2_readStatement_149 (by decide) ?_
                    have e1 : stm T x y d = none := by
                      unfold stm; first | rw [if_neg (by rw [b2n_0 n6]; decide)] | (rw [if_pos (b2n_ne0 n6)]; first | rw [if_neg (by omega)] | (rw [if_pos (by omega)]; first | (rw [if_pos (by omega), if_neg (by omega)]) | (rw [if_pos (by omega), if_pos (by omega)]; exact Option.not_isSome_iff_eq_none.mp (by simp [b2n_0 n71])) | (rw [if_neg (by omega), if_pos (by omega), if_neg (by omega)]) | (rw [if_neg (by omega), if_pos (by omega), if_pos (by omega)]; exact Option.not_isSome_iff_eq_none.mp (by simp [b2n_0 n106])) | (rw [if_neg (by omega), if_neg (by omega), if_neg (by omega)]) | (rw [if_neg (by omega), if_neg (by omega), if_pos (by omega)]; exact Option.not_isSome_iff_eq_none.mp (by simp [b2n_0 n142]))))
                    exact j_zret EE FF (by decide) dX2_readStatement_150 () trivial (by rw [e1]; rfl) (by rw [e1]; rfl)
                  · skip
                    have n131 : ¬ 5 < ((y - x) / 2) := fun hq => c131 ((nI_ltI (a := 5) (b := ((y - x) / 2)) (by omega) (by omega)).mpr hq)
                    refine j_aload_n EE 2 dX2_readStatement_134 rfl rfl ?_
                    refine j_iload_n EE 3 dX2_readStatement_135 rfl rfl ?_
                    refine j_iload EE 0 dX2_readStatement_136 rfl ?_
                    refine j_aload_n EE 5 dX2_readStatement_138 rfl rfl ?_
                    refine j_V2 (n9 := 4) EE (c_X2_readRule a tc le T b rb d q S h hd0 x ((y - x) / 2) (by omega) (by omega) (fun i hi => hdg i (by omega)) (by omega)) gX2_readStatement_X2_readRule ⟨rfl, hd_X2_readRule⟩ rfl ⟨rfl, rfl⟩ ⟨by decide, by decide⟩ rfl [0, 1, 2, 3] rfl [] [(a, .inr (2, [.ref (tc), .int (nI le)])), (tc, .inl (cC, 200, .inl (fun zz => nI (T zz)))), (b, .inr (1, [.int (nI (((rul T x ((y - x) / 2) d).getD d).1)), .int (nI (((rul T x ((y - x) / 2) d).getD d).2.1)), .int (nI (((rul T x ((y - x) / 2) d).getD d).2.2.1)), .int (nI (((rul T x ((y - x) / 2) d).getD d).2.2.2.1)), .int (nI (((rul T x ((y - x) / 2) d).getD d).2.2.2.2.1)), .ref (rb), .int (nI q), .long (lN S), .int (nI h)])), (rb, .inl (cI, 16, .inl (fun zz => nI (((rul T x ((y - x) / 2) d).getD d).2.2.2.2.2 zz))))] (fun _ => rfl) [] [a, tc, b, rb] rfl rfl rfl rfl rfl (by decide) (by decide) 0 rfl rfl rfl (Nat.le_of_ble_eq_true rfl) dX2_readStatement_139 (fun u_139 h_139 => ?_) rfl
                    show J l _ D ε _ _ _ (.int (nI (b2n (rul T x ((y - x) / 2) d).isSome)) :: _)
                    refine j_if_eq EE 149 dX2_readStatement_142 (by decide) (fun c142 => ?_) (fun c142 => ?_)
                    · skip
                      have n142 : (b2n (rul T x ((y - x) / 2) d).isSome) = 0 := (nI_eq (a := (b2n (rul T x ((y - x) / 2) d).isSome)) (b := 0) (by have := b2n_lt (rul T x ((y - x) / 2) d).isSome; omega) (by have := b2n_lt (rul T x ((y - x) / 2) d).isSome; omega)).mp c142
                      refine j_iconst (v := nI 0) EE dX2_readStatement_149 (by decide) ?_
                      have e1 : stm T x y d = none := by
                        unfold stm; first | rw [if_neg (by rw [b2n_0 n6]; decide)] | (rw [if_pos (b2n_ne0 n6)]; first | rw [if_neg (by omega)] | (rw [if_pos (by omega)]; first | (rw [if_pos (by omega), if_neg (by omega)]) | (rw [if_pos (by omega), if_pos (by omega)]; exact Option.not_isSome_iff_eq_none.mp (by simp [b2n_0 n71])) | (rw [if_neg (by omega), if_pos (by omega), if_neg (by omega)]) | (rw [if_neg (by omega), if_pos (by omega), if_pos (by omega)]; exact Option.not_isSome_iff_eq_none.mp (by simp [b2n_0 n106])) | (rw [if_neg (by omega), if_neg (by omega), if_neg (by omega)]) | (rw [if_neg (by omega), if_neg (by omega), if_pos (by omega)]; exact Option.not_isSome_iff_eq_none.mp (by simp [b2n_0 n142]))))
                      have e2 : rul T x ((y - x) / 2) d = none := Option.not_isSome_iff_eq_none.mp (by simp [b2n_0 n142])
                      exact j_zret EE FF (by decide) dX2_readStatement_150 () trivial (by rw [e1]; rfl) (by rw [e1, e2] <;> rfl)
                    · skip
                      have n142 : (b2n (rul T x ((y - x) / 2) d).isSome) ≠ 0 := fun hq => c142 ((nI_eq (a := (b2n (rul T x ((y - x) / 2) d).isSome)) (b := 0) (by have := b2n_lt (rul T x ((y - x) / 2) d).isSome; omega) (by have := b2n_lt (rul T x ((y - x) / 2) d).isSome; omega)).mpr hq)
                      refine j_iconst (v := nI 1) EE dX2_readStatement_145 (by decide) ?_
                      refine j_goto EE 150 dX2_readStatement_146 (by decide) ?_
                      have e1 : stm T x y d = rul T x ((y - x) / 2) d := by
                        unfold stm; rw [if_pos (b2n_ne0 n6), if_pos (by omega), if_neg (by omega), if_neg (by omega), if_pos (by omega)]
                      exact j_zret EE FF (by decide) dX2_readStatement_150 () trivial (by rw [e1, b2n_ne0 n142]; rfl) (by rw [e1])
            · skip
              have n91 : (T x) = 116 := (nI_eq (a := (T x)) (b := 116) (by have := hT x; omega) (by have := hT x; omega)).mp c91
              refine j_iload EE 0 dX2_readStatement_94 rfl ?_
              refine j_iconst (v := nI 1) EE dX2_readStatement_96 (by decide) ?_
              refine j_icmp_ne EE 113 dX2_readStatement_97 (by decide) (fun c97 => ?_) (fun c97 => ?_)
              · skip
                have n97 : ((y - x) / 2) ≠ 1 := fun hq => c97 ((nI_eq (a := ((y - x) / 2)) (b := 1) (by omega) (by omega)).mpr hq)
                refine j_iconst (v := nI 0) EE dX2_readStatement_113 (by decide) ?_
                have e1 : stm T x y d = none := by
                  unfold stm; first | rw [if_neg (by rw [b2n_0 n6]; decide)] | (rw [if_pos (b2n_ne0 n6)]; first | rw [if_neg (by omega)] | (rw [if_pos (by omega)]; first | (rw [if_pos (by omega), if_neg (by omega)]) | (rw [if_pos (by omega), if_pos (by omega)]; exact Option.not_isSome_iff_eq_none.mp (by simp [b2n_0 n71])) | (rw [if_neg (by omega), if_pos (by omega), if_neg (by omega)]) | (rw [if_neg (by omega), if_pos (by omega), if_pos (by omega)]; exact Option.not_isSome_iff_eq_none.mp (by simp [b2n_0 n106])) | (rw [if_neg (by omega), if_neg (by omega), if_neg (by omega)]) | (rw [if_neg (by omega), if_neg (by omega), if_pos (by omega)]; exact Option.not_isSome_iff_eq_none.mp (by simp [b2n_0 n142]))))
                exact j_zret EE FF (by decide) dX2_readStatement_114 () trivial (by rw [e1]; rfl) (by rw [e1]; rfl)
              · skip
                have n97 : ((y - x) / 2) = 1 := (nI_eq (a := ((y - x) / 2)) (b := 1) (by omega) (by omega)).mp c97
                refine j_aload_n EE 2 dX2_readStatement_100 rfl rfl ?_
                refine j_iload_n EE 3 dX2_readStatement_101 rfl rfl ?_
                refine j_aload_n EE 5 dX2_readStatement_102 rfl rfl ?_
                refine j_V2 (n9 := 4) EE (c_X2_readMark a tc le T b rb d q S h hd0 x (fun i hi => hdg i (by omega)) (by omega) hT) gX2_readStatement_X2_readMark ⟨rfl, hd_X2_readMark⟩ rfl ⟨rfl, rfl⟩ ⟨by decide, by decide⟩ rfl [0, 1, 2, 3] rfl [] [(a, .inr (2, [.ref (tc), .int (nI le)])), (tc, .inl (cC, 200, .inl (fun zz => nI (T zz)))), (b, .inr (1, [.int (nI (((mrk T x d).getD d).1)), .int (nI (((mrk T x d).getD d).2.1)), .int (nI (((mrk T x d).getD d).2.2.1)), .int (nI (((mrk T x d).getD d).2.2.2.1)), .int (nI (((mrk T x d).getD d).2.2.2.2.1)), .ref (rb), .int (nI q), .long (lN S), .int (nI h)])), (rb, .inl (cI, 16, .inl (fun zz => nI (((mrk T x d).getD d).2.2.2.2.2 zz))))] (fun _ => rfl) [] [a, tc, b, rb] rfl rfl rfl rfl rfl (by decide) (by decide) 0 rfl rfl rfl (Nat.le_of_ble_eq_true rfl) dX2_readStatement_103 (fun u_103 h_103 => ?_) rfl
                show J l _ D ε _ _ _ (.int (nI (b2n (mrk T x d).isSome)) :: _)
                refine j_if_eq EE 113 dX2_readStatement_106 (by decide) (fun c106 => ?_) (fun c106 => ?_)
                · skip
                  have n106 : (b2n (mrk T x d).isSome) = 0 := (nI_eq (a := (b2n (mrk T x d).isSome)) (b := 0) (by have := b2n_lt (mrk T x d).isSome; omega) (by have := b2n_lt (mrk T x d).isSome; omega)).mp c106
                  refine j_iconst (v := nI 0) EE dX2_readStatement_113 (by decide) ?_
                  have e1 : stm T x y d = none := by
                    unfold stm; first | rw [if_neg (by rw [b2n_0 n6]; decide)] | (rw [if_pos (b2n_ne0 n6)]; first | rw [if_neg (by omega)] | (rw [if_pos (by omega)]; first | (rw [if_pos (by omega), if_neg (by omega)]) | (rw [if_pos (by omega), if_pos (by omega)]; exact Option.not_isSome_iff_eq_none.mp (by simp [b2n_0 n71])) | (rw [if_neg (by omega), if_pos (by omega), if_neg (by omega)]) | (rw [if_neg (by omega), if_pos (by omega), if_pos (by omega)]; exact Option.not_isSome_iff_eq_none.mp (by simp [b2n_0 n106])) | (rw [if_neg (by omega), if_neg (by omega), if_neg (by omega)]) | (rw [if_neg (by omega), if_neg (by omega), if_pos (by omega)]; exact Option.not_isSome_iff_eq_none.mp (by simp [b2n_0 n142]))))
                  have e2 : mrk T x d = none := Option.not_isSome_iff_eq_none.mp (by simp [b2n_0 n106])
                  exact j_zret EE FF (by decide) dX2_readStatement_114 () trivial (by rw [e1]; rfl) (by rw [e1, e2] <;> rfl)
                · skip
                  have n106 : (b2n (mrk T x d).isSome) ≠ 0 := fun hq => c106 ((nI_eq (a := (b2n (mrk T x d).isSome)) (b := 0) (by have := b2n_lt (mrk T x d).isSome; omega) (by have := b2n_lt (mrk T x d).isSome; omega)).mpr hq)
                  refine j_iconst (v := nI 1) EE dX2_readStatement_109 (by decide) ?_
                  refine j_goto EE 114 dX2_readStatement_110 (by decide) ?_
                  have e1 : stm T x y d = mrk T x d := by
                    unfold stm; rw [if_pos (b2n_ne0 n6), if_pos (by omega), if_neg (by omega), if_pos (by omega), if_pos (by omega)]
                  exact j_zret EE FF (by decide) dX2_readStatement_114 () trivial (by rw [e1, b2n_ne0 n106]; rfl) (by rw [e1])
        · skip
          have n56 : (T x) = 103 := (nI_eq (a := (T x)) (b := 103) (by have := hT x; omega) (by have := hT x; omega)).mp c56
          refine j_iload EE 0 dX2_readStatement_59 rfl ?_
          refine j_iconst (v := nI 2) EE dX2_readStatement_61 (by decide) ?_
          refine j_icmp_ne EE 78 dX2_readStatement_62 (by decide) (fun c62 => ?_) (fun c62 => ?_)
          · skip
            have n62 : ((y - x) / 2) ≠ 2 := fun hq => c62 ((nI_eq (a := ((y - x) / 2)) (b := 2) (by omega) (by omega)).mpr hq)
            refine j_iconst (v := nI 0) EE dX2_readStatement_78 (by decide) ?_
            have e1 : stm T x y d = none := by
              unfold stm; first | rw [if_neg (by rw [b2n_0 n6]; decide)] | (rw [if_pos (b2n_ne0 n6)]; first | rw [if_neg (by omega)] | (rw [if_pos (by omega)]; first | (rw [if_pos (by omega), if_neg (by omega)]) | (rw [if_pos (by omega), if_pos (by omega)]; exact Option.not_isSome_iff_eq_none.mp (by simp [b2n_0 n71])) | (rw [if_neg (by omega), if_pos (by omega), if_neg (by omega)]) | (rw [if_neg (by omega), if_pos (by omega), if_pos (by omega)]; exact Option.not_isSome_iff_eq_none.mp (by simp [b2n_0 n106])) | (rw [if_neg (by omega), if_neg (by omega), if_neg (by omega)]) | (rw [if_neg (by omega), if_neg (by omega), if_pos (by omega)]; exact Option.not_isSome_iff_eq_none.mp (by simp [b2n_0 n142]))))
            exact j_zret EE FF (by decide) dX2_readStatement_79 () trivial (by rw [e1]; rfl) (by rw [e1]; rfl)
          · skip
            have n62 : ((y - x) / 2) = 2 := (nI_eq (a := ((y - x) / 2)) (b := 2) (by omega) (by omega)).mp c62
            refine j_aload_n EE 2 dX2_readStatement_65 rfl rfl ?_
            refine j_iload_n EE 3 dX2_readStatement_66 rfl rfl ?_
            refine j_aload_n EE 5 dX2_readStatement_67 rfl rfl ?_
            refine j_V2 (n9 := 4) EE (c_X2_readSizes a tc le T b rb d q S h hd0 x (fun i hi => hdg i (by omega)) (by omega)) gX2_readStatement_X2_readSizes ⟨rfl, hd_X2_readSizes⟩ rfl ⟨rfl, rfl⟩ ⟨by decide, by decide⟩ rfl [0, 1, 2, 3] rfl [] [(a, .inr (2, [.ref (tc), .int (nI le)])), (tc, .inl (cC, 200, .inl (fun zz => nI (T zz)))), (b, .inr (1, [.int (nI (((szs T x d).getD d).1)), .int (nI (((szs T x d).getD d).2.1)), .int (nI (((szs T x d).getD d).2.2.1)), .int (nI (((szs T x d).getD d).2.2.2.1)), .int (nI (((szs T x d).getD d).2.2.2.2.1)), .ref (rb), .int (nI q), .long (lN S), .int (nI h)])), (rb, .inl (cI, 16, .inl (fun zz => nI (((szs T x d).getD d).2.2.2.2.2 zz))))] (fun _ => rfl) [] [a, tc, b, rb] rfl rfl rfl rfl rfl (by decide) (by decide) 0 rfl rfl rfl (Nat.le_of_ble_eq_true rfl) dX2_readStatement_68 (fun u_68 h_68 => ?_) rfl
            show J l _ D ε _ _ _ (.int (nI (b2n (szs T x d).isSome)) :: _)
            refine j_if_eq EE 78 dX2_readStatement_71 (by decide) (fun c71 => ?_) (fun c71 => ?_)
            · skip
              have n71 : (b2n (szs T x d).isSome) = 0 := (nI_eq (a := (b2n (szs T x d).isSome)) (b := 0) (by have := b2n_lt (szs T x d).isSome; omega) (by have := b2n_lt (szs T x d).isSome; omega)).mp c71
              refine j_iconst (v := nI 0) EE dX2_readStatement_78 (by decide) ?_
              have e1 : stm T x y d = none := by
                unfold stm; first | rw [if_neg (by rw [b2n_0 n6]; decide)] | (rw [if_pos (b2n_ne0 n6)]; first | rw [if_neg (by omega)] | (rw [if_pos (by omega)]; first | (rw [if_pos (by omega), if_neg (by omega)]) | (rw [if_pos (by omega), if_pos (by omega)]; exact Option.not_isSome_iff_eq_none.mp (by simp [b2n_0 n71])) | (rw [if_neg (by omega), if_pos (by omega), if_neg (by omega)]) | (rw [if_neg (by omega), if_pos (by omega), if_pos (by omega)]; exact Option.not_isSome_iff_eq_none.mp (by simp [b2n_0 n106])) | (rw [if_neg (by omega), if_neg (by omega), if_neg (by omega)]) | (rw [if_neg (by omega), if_neg (by omega), if_pos (by omega)]; exact Option.not_isSome_iff_eq_none.mp (by simp [b2n_0 n142]))))
              have e2 : szs T x d = none := Option.not_isSome_iff_eq_none.mp (by simp [b2n_0 n71])
              exact j_zret EE FF (by decide) dX2_readStatement_79 () trivial (by rw [e1]; rfl) (by rw [e1, e2] <;> rfl)
            · skip
              have n71 : (b2n (szs T x d).isSome) ≠ 0 := fun hq => c71 ((nI_eq (a := (b2n (szs T x d).isSome)) (b := 0) (by have := b2n_lt (szs T x d).isSome; omega) (by have := b2n_lt (szs T x d).isSome; omega)).mpr hq)
              refine j_iconst (v := nI 1) EE dX2_readStatement_74 (by decide) ?_
              refine j_goto EE 79 dX2_readStatement_75 (by decide) ?_
              have e1 : stm T x y d = szs T x d := by
                unfold stm; rw [if_pos (b2n_ne0 n6), if_pos (by omega), if_pos (by omega), if_pos (by omega)]
              exact j_zret EE FF (by decide) dX2_readStatement_79 () trivial (by rw [e1, b2n_ne0 n71]; rfl) (by rw [e1])
  · skip
    have n6 : (b2n (kwn T x y)) = 0 := (nI_eq (a := (b2n (kwn T x y))) (b := 0) (by have := b2n_lt (kwn T x y); omega) (by have := b2n_lt (kwn T x y); omega)).mp c6
    refine j_iconst (v := nI 0) EE dX2_readStatement_9 (by decide) ?_
    have e1 : stm T x y d = none := by
      unfold stm; first | rw [if_neg (by rw [b2n_0 n6]; decide)] | (rw [if_pos (b2n_ne0 n6)]; first | rw [if_neg (by omega)] | (rw [if_pos (by omega)]; first | (rw [if_pos (by omega), if_neg (by omega)]) | (rw [if_pos (by omega), if_pos (by omega)]; exact Option.not_isSome_iff_eq_none.mp (by simp [b2n_0 n71])) | (rw [if_neg (by omega), if_pos (by omega), if_neg (by omega)]) | (rw [if_neg (by omega), if_pos (by omega), if_pos (by omega)]; exact Option.not_isSome_iff_eq_none.mp (by simp [b2n_0 n106])) | (rw [if_neg (by omega), if_neg (by omega), if_neg (by omega)]) | (rw [if_neg (by omega), if_neg (by omega), if_pos (by omega)]; exact Option.not_isSome_iff_eq_none.mp (by simp [b2n_0 n142]))))
    exact j_zret EE FF (by decide) dX2_readStatement_10 () trivial (by rw [e1]; rfl) (by rw [e1]; rfl)

end G_24_text
