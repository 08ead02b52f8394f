section G_27_search
variable {l : Launch} {D : va_G} {cI cC cJ cG : ClassId}

/-- the moves of the soonest of the rules, l1 moves at most left to a better one -/
def soL (M : Nat → Nat → Nat → Nat → Option Nat) (F : Nat → Nat) (n pr S h : Nat) : Nat → Option Nat → Nat → Option Nat
  | 0, b, _ => b
  | j + 1, b, l1 => if l1 = 0 then b else if F (n - (j + 1)) % 16 = pr then (match M (l1 - 1) (F (n - (j + 1)) / 16 % 4) (sAft S (F (n - (j + 1)))) (hAft h (F (n - (j + 1)))) with
      | none => soL M F n pr S h j b l1
      | some m => soL M F n pr S h j (some (m + 1)) m) else soL M F n pr S h j b l1
def ltL (M : Nat → Nat → Nat → Option Nat) (F : Nat → Nat) (n pr S h : Nat) : Nat → Option Nat → Option Nat
  | 0, b => b
  | j + 1, b => if F (n - (j + 1)) % 16 = pr then (match M (F (n - (j + 1)) / 16 % 4) (sAft S (F (n - (j + 1)))) (hAft h (F (n - (j + 1)))) with
      | none => none
      | some m => ltL M F n pr S h j (some (max (b.getD 0) (m + 1)))) else ltL M F n pr S h j b
def mvF (o t n : Nat) (F : Nat → Nat) : Nat → Nat → Nat → Nat → Nat → Option Nat
  | 0, _, p, _, _ => if bt t p = 1 then some 0 else none
  | f + 1, lim, p, S, h => if bt t p = 1 then some 0 else if h = 0 ∨ lim = 0 then none else if bt o p = 1 then ltL (mvF o t n F f (lim - 1)) F n (p + 4 * (S % 4)) S h n none else soL (mvF o t n F f) F n (p + 4 * (S % 4)) S h n none lim
theorem soL_le {M : Nat → Nat → Nat → Nat → Option Nat} {F : Nat → Nat} {n pr S h L : Nat} (hM : ∀ lim p S h m, M lim p S h = some m → m ≤ lim) : ∀ (j : Nat) (b : Option Nat) (l1 : Nat), (∀ m, b = some m → m ≤ L) → l1 ≤ L → ∀ m, soL M F n pr S h j b l1 = some m → m ≤ L
  | 0, b, l1, hb, hl, m, h => hb m h
  | j + 1, b, l1, hb, hl, m, h => by
    unfold soL at h
    split at h
    · exact hb m h
    · split at h
      · split at h
        · exact soL_le hM j b l1 hb hl m h
        · rename_i m' hm'
          have h1 := hM _ _ _ _ _ hm'
          refine soL_le hM j (some (m' + 1)) m' (fun z hz => ?_) (by omega) m h
          cases hz
          omega
      · exact soL_le hM j b l1 hb hl m h
theorem ltL_le {M : Nat → Nat → Nat → Option Nat} {F : Nat → Nat} {n pr S h L : Nat} (hM : ∀ p S h m, M p S h = some m → m + 1 ≤ L) : ∀ (j : Nat) (b : Option Nat), (∀ m, b = some m → m ≤ L) → ∀ m, ltL M F n pr S h j b = some m → m ≤ L
  | 0, b, hb, m, h => hb m h
  | j + 1, b, hb, m, h => by
    unfold ltL at h
    split at h
    · split at h
      · cases h
      · rename_i m' hm'
        have h1 := hM _ _ _ _ hm'
        refine ltL_le hM j _ (fun z hz => ?_) m h
        cases hz
        refine Nat.max_le.mpr ⟨?_, h1⟩
        cases b with
        | none => exact Nat.zero_le _
        | some w => exact hb w rfl
    · exact ltL_le hM j b hb m h
theorem mvF_le {o t n : Nat} {F : Nat → Nat} : ∀ (f lim p S h m : Nat), mvF o t n F f lim p S h = some m → m ≤ lim
  | 0, lim, p, S, h, m, hm => by
    unfold mvF at hm
    split at hm
    · cases hm; exact Nat.zero_le _
    · cases hm
  | f + 1, lim, p, S, h, m, hm => by
    unfold mvF at hm
    split at hm
    · cases hm; exact Nat.zero_le _
    · split at hm
      · cases hm
      · split at hm
        · exact ltL_le (fun p S h m hz => by have := mvF_le f _ _ _ _ _ hz; omega) n none (fun m hz => by cases hz) m hm
        · exact soL_le (fun lim p S h m hz => mvF_le f _ _ _ _ _ hz) n none lim (fun m hz => by cases hz) (Nat.le_refl _) m hm
theorem oI_4 {x : Option Nat} (h : ∀ m, x = some m → m < 1000) : oI x = (-4) ↔ x = none := by
  cases x with
  | none => simp [oI]
  | some m =>
    have hm := h m rfl
    constructor
    · intro hz
      have h1 : (nI m).toInt = (-4 : Int32).toInt := congrArg _ hz
      rw [nI_toInt (by omega)] at h1
      have h2 : ((-4 : Int32).toInt) = (-4 : Int) := by decide
      rw [h2] at h1
      omega
    · intro hz; cases hz
theorem sAft_lt {S k m : Nat} (hS : S < 4 ^ (m + 1)) : sAft S k < 4 ^ (m + 2) := by
  have h1 : 4 ^ (m + 1) = 4 * 4 ^ m := by rw [Nat.pow_succ]; omega
  have h2 : 4 ^ (m + 2) = 16 * 4 ^ m := by rw [Nat.pow_succ, Nat.pow_succ]; omega
  unfold sAft
  split <;> split <;> omega
theorem hAft_le {h k : Nat} (hh : 1 ≤ h) : hAft h k ≤ h + 1 := by
  unfold hAft
  split <;> split <;> omega
theorem p4_lt {f : Nat} (hf : f ≤ 8) : 4 ^ (24 - f) < 2 ^ 50 := Nat.lt_of_le_of_lt (Nat.pow_le_pow_right (by decide) (show 24 - f ≤ 24 by omega)) (by decide)
theorem soL_c {M : Nat → Nat → Nat → Nat → Option Nat} {F : Nat → Nat} {n pr S h i : Nat} {b : Option Nat} {l1 : Nat} (hi : i < n) (hl : l1 ≠ 0) : soL M F n pr S h (n - i) b l1 = if F i % 16 = pr then (match M (l1 - 1) (F i / 16 % 4) (sAft S (F i)) (hAft h (F i)) with
      | none => soL M F n pr S h (n - (i + 1)) b l1
      | some m => soL M F n pr S h (n - (i + 1)) (some (m + 1)) m) else soL M F n pr S h (n - (i + 1)) b l1 := by
  rw [show n - i = (n - (i + 1)) + 1 by omega]
  conv => lhs; unfold soL
  rw [if_neg hl, show n - (n - (i + 1) + 1) = i by omega]
theorem soL_z {M : Nat → Nat → Nat → Nat → Option Nat} {F : Nat → Nat} {n pr S h j : Nat} {b : Option Nat} : soL M F n pr S h j b 0 = b := by
  cases j with
  | zero => rfl
  | succ j => unfold soL; rw [if_pos rfl]
theorem ltL_c {M : Nat → Nat → Nat → Option Nat} {F : Nat → Nat} {n pr S h i : Nat} {b : Option Nat} (hi : i < n) : ltL M F n pr S h (n - i) b = if F i % 16 = pr then (match M (F i / 16 % 4) (sAft S (F i)) (hAft h (F i)) with
      | none => none
      | some m => ltL M F n pr S h (n - (i + 1)) (some (max (b.getD 0) (m + 1)))) else ltL M F n pr S h (n - (i + 1)) b := by
  rw [show n - i = (n - (i + 1)) + 1 by omega]
  conv => lhs; unfold ltL
  rw [show n - (n - (i + 1) + 1) = i by omega]
theorem max_o {b : Option Nat} {m : Nat} (hb : ∀ z, b = some z → z < 1000) (hm : m < 1000) : (if oI b < nI m then nI m else oI b) = oI (some (max (b.getD 0) m)) := by
  cases b with
  | none =>
    have h1 : (-4 : Int32) < nI m := by
      rw [Int32.lt_iff_toInt_lt, nI_toInt (by omega)]
      have h2 : ((-4 : Int32).toInt) = (-4 : Int) := by decide
      rw [h2]
      omega
    show (if (-4 : Int32) < nI m then nI m else (-4)) = nI (max 0 m)
    rw [if_pos h1, Nat.max_eq_right (Nat.zero_le _)]
  | some w =>
    have hw := hb w rfl
    show (if nI w < nI m then nI m else nI w) = nI (max w m)
    by_cases h : w < m
    · rw [if_pos ((nI_ltI (by omega) (by omega)).mpr h), Nat.max_eq_right (by omega)]
    · rw [if_neg (fun z => h ((nI_ltI (by omega) (by omega)).mp z)), Nat.max_eq_left (by omega)]
theorem sAft_b {S k f : Nat} (hS : S < 4 ^ (24 - (f + 1))) (hf : f ≤ 8) : sAft S k < 4 ^ (24 - f) := by
  rw [show 24 - f = (22 - f) + 2 by omega]
  rw [show 24 - (f + 1) = (22 - f) + 1 by omega] at hS
  exact sAft_lt hS

theorem hd_X7_stackAfter : yX7_stackAfter.cls ≠ "java/lang/invoke/MethodHandle" ∧ yX7_stackAfter.cls ≠ "java/lang/invoke/VarHandle" ∧ (parseMethodDescriptor yX7_stackAfter.desc).map (fun d => d.parameters.length) = some 2 := by decide +kernel
theorem hd_X7_heightAfter : yX7_heightAfter.cls ≠ "java/lang/invoke/MethodHandle" ∧ yX7_heightAfter.cls ≠ "java/lang/invoke/VarHandle" ∧ (parseMethodDescriptor yX7_heightAfter.desc).map (fun d => d.parameters.length) = some 2 := by decide +kernel
theorem hd_X6_movesFrom : yX6_movesFrom.cls ≠ "java/lang/invoke/MethodHandle" ∧ yX6_movesFrom.cls ≠ "java/lang/invoke/VarHandle" ∧ (parseMethodDescriptor yX6_movesFrom.desc).map (fun d => d.parameters.length) = some 5 := by decide +kernel
set_option maxHeartbeats 4000000 in
set_option maxRecDepth 100000 in
theorem c_X6_movesAfter (a r P Y o t n q S h : Nat) (F : Nat → Nat) (f : Nat) (hf : f ≤ 8) (ht : t < 16) (ho : o < 16) (hn : n ≤ 16) (hF : ∀ i, F i < 1024) (hMF : ∀ (lim2 p2 S2 h2 : Nat), lim2 ≤ f → p2 < 4 → S2 < 4 ^ (24 - f) → h2 + f ≤ 90 → Ct l yX6_movesFrom wsX6_movesFrom (rmD (3 * f + 3)) D [(cI, .int), (cC, .char), (cJ, .long), (cG, .object "PushdownGameSolver$Game")] [.ref a, .int (nI p2), .long (lN S2), .int (nI h2), .int (nI lim2)] [(a, .inr (1, [.int (nI P), .int (nI Y), .int (nI o), .int (nI t), .int (nI n), .ref (r), .int (nI q), .long (lN S), .int (nI h)])), (r, .inl (cI, 16, .inl (fun zz => nI (F zz))))] (S := Unit) (fun _ => True) (fun _ => some (.int (oI (mvF o t n F f lim2 p2 S2 h2)))) (fun _ => [(a, .inr (1, [.int (nI P), .int (nI Y), .int (nI o), .int (nI t), .int (nI n), .ref (r), .int (nI q), .long (lN S), .int (nI h)])), (r, .inl (cI, 16, .inl (fun zz => nI (F zz))))])) (k sk hh lim : Nat) (hk : k < 1024) (hS : sk < 4 ^ (24 - (f + 1))) (h1 : 1 ≤ hh) (hh9 : hh + f ≤ 89) (hlim : lim ≤ f) : Ct l yX6_movesAfter wsX6_movesAfter (rmD (3 * f + 4)) D [(cI, .int), (cC, .char), (cJ, .long), (cG, .object "PushdownGameSolver$Game")] [.ref (a), .int (nI k), .long (lN sk), .int (nI hh), .int (nI lim)] [(a, .inr (1, [.int (nI P), .int (nI Y), .int (nI o), .int (nI t), .int (nI n), .ref (r), .int (nI q), .long (lN S), .int (nI h)])), (r, .inl (cI, 16, .inl (fun zz => nI (F zz))))] (S := Unit) (fun _ => True) (fun _ => some (.int (oI (mvF o t n F f lim (k / 16 % 4) (sAft sk k) (hAft hh k))))) (fun _ => [(a, .inr (1, [.int (nI P), .int (nI Y), .int (nI o), .int (nI t), .int (nI n), .ref (r), .int (nI q), .long (lN S), .int (nI h)])), (r, .inl (cI, 16, .inl (fun zz => nI (F zz))))]) := by
  refine Ct.of (lv := [(0, .ref (a)), (1, .int (nI k)), (2, .long (lN sk)), (4, .int (nI hh)), (5, .int (nI lim))]) (by decide) rfl (Nat.le_of_ble_eq_true rfl) rfl ?_
  intro ε hL EE FF
  have hpb : 4 ^ (24 - (f + 1)) ≤ 4 ^ (24 - f) := Nat.pow_le_pow_right (by decide) (by omega)
  have hpc := p4_lt hf
  refine j_aload_n EE 0 dX6_movesAfter_0 rfl rfl ?_
  refine j_iload_n EE 1 dX6_movesAfter_1 rfl rfl ?_
  refine j_S2 (n9 := 2) EE (c_X5_next k (by omega)) gX6_movesAfter_X5_next hd_X5_next rfl ⟨rfl, rfl⟩ ⟨by simp only [rmD]; omega, by simp only [rmD]; omega⟩ rfl [] rfl [0, 1] [(a, .inr (1, [.int (nI P), .int (nI Y), .int (nI o), .int (nI t), .int (nI n), .ref (r), .int (nI q), .long (lN S), .int (nI h)])), (r, .inl (cI, 16, .inl (fun zz => nI (F zz))))] (fun _ => rfl) [(a, .inr (1, [.int (nI P), .int (nI Y), .int (nI o), .int (nI t), .int (nI n), .ref (r), .int (nI q), .long (lN S), .int (nI h)])), (r, .inl (cI, 16, .inl (fun zz => nI (F zz))))] [a, r] rfl rfl rfl rfl rfl (by decide) (by decide) rfl (Nat.le_of_ble_eq_true rfl) dX6_movesAfter_2 (fun u_2 h_2 => ?_) rfl
  show J l _ D ε _ _ _ (.int (nI (k / 16 % 4)) :: _)
  refine j_lload_n EE 2 dX6_movesAfter_5 rfl rfl ?_
  refine j_iload_n EE 1 dX6_movesAfter_6 rfl rfl ?_
  refine j_S2 (n9 := 2) EE (c_X7_stackAfter sk k (by omega) (by omega)) gX6_movesAfter_X7_stackAfter hd_X7_stackAfter rfl ⟨rfl, rfl⟩ ⟨by simp only [rmD]; omega, by simp only [rmD]; omega⟩ rfl [] rfl [0, 1] [(a, .inr (1, [.int (nI P), .int (nI Y), .int (nI o), .int (nI t), .int (nI n), .ref (r), .int (nI q), .long (lN S), .int (nI h)])), (r, .inl (cI, 16, .inl (fun zz => nI (F zz))))] (fun _ => rfl) [(a, .inr (1, [.int (nI P), .int (nI Y), .int (nI o), .int (nI t), .int (nI n), .ref (r), .int (nI q), .long (lN S), .int (nI h)])), (r, .inl (cI, 16, .inl (fun zz => nI (F zz))))] [a, r] rfl rfl rfl rfl rfl (by decide) (by decide) rfl (Nat.le_of_ble_eq_true rfl) dX6_movesAfter_7 (fun u_7 h_7 => ?_) rfl
  show J l _ D ε _ _ _ (.long (lN (sAft sk k)) :: _)
  refine j_iload EE 3 dX6_movesAfter_10 rfl ?_
  refine j_iload_n EE 1 dX6_movesAfter_12 rfl rfl ?_
  refine j_S2 (n9 := 2) EE (c_X7_heightAfter hh k (by omega) (by omega) (by omega)) gX6_movesAfter_X7_heightAfter hd_X7_heightAfter rfl ⟨rfl, rfl⟩ ⟨by simp only [rmD]; omega, by simp only [rmD]; omega⟩ rfl [] rfl [0, 1] [(a, .inr (1, [.int (nI P), .int (nI Y), .int (nI o), .int (nI t), .int (nI n), .ref (r), .int (nI q), .long (lN S), .int (nI h)])), (r, .inl (cI, 16, .inl (fun zz => nI (F zz))))] (fun _ => rfl) [(a, .inr (1, [.int (nI P), .int (nI Y), .int (nI o), .int (nI t), .int (nI n), .ref (r), .int (nI q), .long (lN S), .int (nI h)])), (r, .inl (cI, 16, .inl (fun zz => nI (F zz))))] [a, r] rfl rfl rfl rfl rfl (by decide) (by decide) rfl (Nat.le_of_ble_eq_true rfl) dX6_movesAfter_13 (fun u_13 h_13 => ?_) rfl
  show J l _ D ε _ _ _ (.int (nI (hAft hh k)) :: _)
  refine j_iload EE 4 dX6_movesAfter_16 rfl ?_
  refine j_S2 (n9 := 2) EE (hMF lim (k / 16 % 4) (sAft sk k) (hAft hh k) (by omega) (by omega) (sAft_b hS hf) (by have := hAft_le (k := k) h1; omega)) gX6_movesAfter_X6_movesFrom hd_X6_movesFrom rfl ⟨rfl, rfl⟩ ⟨by simp only [rmD]; omega, by simp only [rmD]; omega⟩ rfl [0, 1] rfl [] [(a, .inr (1, [.int (nI P), .int (nI Y), .int (nI o), .int (nI t), .int (nI n), .ref (r), .int (nI q), .long (lN S), .int (nI h)])), (r, .inl (cI, 16, .inl (fun zz => nI (F zz))))] (fun _ => rfl) [] [a, r] rfl rfl rfl rfl rfl (by decide) (by decide) rfl (Nat.le_of_ble_eq_true rfl) dX6_movesAfter_18 (fun u_18 h_18 => ?_) rfl
  show J l _ D ε _ _ _ (.int (oI (mvF o t n F f lim (k / 16 % 4) (sAft sk k) (hAft hh k))) :: _)
  exact j_iret EE FF dX6_movesAfter_21 () trivial (by first | rfl | simp_all) rfl

theorem iw_X6_soonest_X1 : ∀ w ∈ wsX10, w ∈ wsX6_soonest := fun _ h => List.mem_cons_of_mem _ (List.mem_append_right _ h)
theorem lk_X6_soonest_58 : Cond.fieldLink RX6 58 (TX1 4).1 (TX1 4).2.1 (TX1 4).2.2.1 ∈ wsX6_soonest := List.mem_of_getElem? (i := 1) rfl
theorem lk_X6_soonest_61 : Cond.fieldLink RX6 61 (TX1 5).1 (TX1 5).2.1 (TX1 5).2.2.1 ∈ wsX6_soonest := List.mem_of_getElem? (i := 2) rfl
theorem hd_X6_movesAfter : yX6_movesAfter.cls ≠ "java/lang/invoke/MethodHandle" ∧ yX6_movesAfter.cls ≠ "java/lang/invoke/VarHandle" ∧ (parseMethodDescriptor yX6_movesAfter.desc).map (fun d => d.parameters.length) = some 5 := by decide +kernel
set_option maxHeartbeats 4000000 in
set_option maxRecDepth 100000 in
theorem c_X6_soonest (a r P Y o t n q S h : Nat) (F : Nat → Nat) (f : Nat) (hf : f ≤ 8) (ht : t < 16) (ho : o < 16) (hn : n ≤ 16) (hF : ∀ i, F i < 1024) (hMF : ∀ (lim2 p2 S2 h2 : Nat), lim2 ≤ f → p2 < 4 → S2 < 4 ^ (24 - f) → h2 + f ≤ 90 → Ct l yX6_movesFrom wsX6_movesFrom (rmD (3 * f + 3)) D [(cI, .int), (cC, .char), (cJ, .long), (cG, .object "PushdownGameSolver$Game")] [.ref a, .int (nI p2), .long (lN S2), .int (nI h2), .int (nI lim2)] [(a, .inr (1, [.int (nI P), .int (nI Y), .int (nI o), .int (nI t), .int (nI n), .ref (r), .int (nI q), .long (lN S), .int (nI h)])), (r, .inl (cI, 16, .inl (fun zz => nI (F zz))))] (S := Unit) (fun _ => True) (fun _ => some (.int (oI (mvF o t n F f lim2 p2 S2 h2)))) (fun _ => [(a, .inr (1, [.int (nI P), .int (nI Y), .int (nI o), .int (nI t), .int (nI n), .ref (r), .int (nI q), .long (lN S), .int (nI h)])), (r, .inl (cI, 16, .inl (fun zz => nI (F zz))))])) (pr sk hh lim : Nat) (hpr : pr < 16) (hS : sk < 4 ^ (24 - (f + 1))) (h1 : 1 ≤ hh) (hh9 : hh + f ≤ 89) (hlim : lim ≤ f + 1) (hlim1 : 1 ≤ lim) : Ct l yX6_soonest wsX6_soonest (rmD (3 * f + 5)) D [(cI, .int), (cC, .char), (cJ, .long), (cG, .object "PushdownGameSolver$Game")] [.ref (a), .int (nI pr), .long (lN sk), .int (nI hh), .int (nI lim)] [(a, .inr (1, [.int (nI P), .int (nI Y), .int (nI o), .int (nI t), .int (nI n), .ref (r), .int (nI q), .long (lN S), .int (nI h)])), (r, .inl (cI, 16, .inl (fun zz => nI (F zz))))] (S := Unit) (fun _ => True) (fun _ => some (.int (oI (soL (mvF o t n F f) F n pr sk hh n none lim)))) (fun _ => [(a, .inr (1, [.int (nI P), .int (nI Y), .int (nI o), .int (nI t), .int (nI n), .ref (r), .int (nI q), .long (lN S), .int (nI h)])), (r, .inl (cI, 16, .inl (fun zz => nI (F zz))))]) := by
  refine Ct.of (lv := [(0, .ref (a)), (1, .int (nI pr)), (2, .long (lN sk)), (4, .int (nI hh)), (5, .int (nI lim))]) (by decide) rfl (Nat.le_of_ble_eq_true rfl) rfl ?_
  intro ε hL EE FF
  have Lp_13 : ∀ (nf : Nat), ∀ (i : Nat) (b : Option Nat) (l1 : Nat), 17 - i < nf → (i ≤ n) → (l1 ≤ f + 1) → (∀ z, b = some z → z < 1000) → (soL (mvF o t n F f) F n pr sk hh (n - i) b l1 = soL (mvF o t n F f) F n pr sk hh n none lim) → J l (rmD (3 * f + 5)) D ε [(a, .inr (1, [.int (nI P), .int (nI Y), .int (nI o), .int (nI t), .int (nI n), .ref (r), .int (nI q), .long (lN S), .int (nI h)])), (r, .inl (cI, 16, .inl (fun zz => nI (F zz))))] 13 [(8, .int (nI i)), (7, .int (nI l1 - nI 1)), (6, .int (oI b)), (0, .ref (a)), (1, .int (nI pr)), (2, .long (lN sk)), (4, .int (nI hh)), (5, .int (nI lim))] [] := by
    intro nf
    induction nf with
    | zero => intro i b l1 hm; exact absurd hm (Nat.not_lt_zero _)
    | succ nf ihp_13 =>
      intro i b l1 hm13 hi hl1 hb hq
      refine j_iload EE 0 dX6_soonest_13 rfl ?_
      refine j_aload_n EE 3 dX6_soonest_15 rfl rfl ?_
      refine j_get (T := TX1) EE iw_X6_soonest_X1 0 rfl rfl 4 (by decide) lk_X6_soonest_58 rfl dX6_soonest_16 ?_
      refine j_icmp_ge EE 83 dX6_soonest_19 (by decide) (fun c19 => ?_) (fun c19 => ?_)
      · skip
        have n19 : n ≤ i := (nI_leI (a := n) (b := i) (by omega) (by omega)).mp c19
        refine j_iload EE 2 dX6_soonest_83 rfl ?_
        exact j_iret EE FF dX6_soonest_85 () trivial (by rw [← hq]; first | rw [show n - i = 0 by omega]; rfl | rw [m24, soL_z]) rfl
      · skip
        have n19 : ¬ n ≤ i := fun hq => c19 ((nI_leI (a := n) (b := i) (by omega) (by omega)).mpr hq)
        refine j_iload EE 1 dX6_soonest_22 rfl ?_
        refine j_if_lt EE 83 dX6_soonest_24 (by decide) (fun c24 => ?_) (fun c24 => ?_)
        · skip
          have m24 : l1 = 0 := by
            rcases Nat.eq_zero_or_pos l1 with hz | hz
            · exact hz
            · exact absurd c24 (by rw [pk_sub (by omega)]; exact nI_pos (by omega))
          refine j_iload EE 2 dX6_soonest_83 rfl ?_
          exact j_iret EE FF dX6_soonest_85 () trivial (by rw [← hq]; first | rw [show n - i = 0 by omega]; rfl | rw [m24, soL_z]) rfl
        · skip
          have m24 : 1 ≤ l1 := by
            rcases Nat.eq_zero_or_pos l1 with hz | hz
            · exact absurd (by rw [hz]; decide) c24
            · exact hz
          refine j_aload_n EE 3 dX6_soonest_27 rfl rfl ?_
          refine j_get (T := TX1) EE iw_X6_soonest_X1 0 rfl rfl 5 (by decide) lk_X6_soonest_61 rfl dX6_soonest_28 ?_
          refine j_iload EE 0 dX6_soonest_31 rfl ?_
          refine j_iald EE 1 0 rfl rfl (vp_in_nI (n := i) (by omega) (by decide)) dX6_soonest_33 ?_
          refine j_topE (congrArg (fun zz => nI (F zz)) (nI_clamp (n := i) (by omega))) ?_
          refine j_topE (y := nI (F i)) rfl ?_
          refine j_istore EE [(9, _), (8, _), (7, _), (6, _), (0, _), (1, _), (2, _), (4, _), (5, _)] dX6_soonest_34 (Nat.lt_of_lt_of_eq (by decide) hL.symm) rfl ?_
          refine j_iload EE 0 dX6_soonest_36 rfl ?_
          refine j_iload_n EE 5 dX6_soonest_38 rfl rfl ?_
          refine j_S2 (n9 := 2) EE (c_X5_fitsPair (F i) pr (by have := hF i; omega) (by have := hF i; omega)) gX6_soonest_X5_fitsPair hd_X5_fitsPair rfl ⟨rfl, rfl⟩ ⟨by simp only [rmD]; omega, by simp only [rmD]; omega⟩ rfl [] rfl [0, 1] [(a, .inr (1, [.int (nI P), .int (nI Y), .int (nI o), .int (nI t), .int (nI n), .ref (r), .int (nI q), .long (lN S), .int (nI h)])), (r, .inl (cI, 16, .inl (fun zz => nI (F zz))))] (fun _ => rfl) [(a, .inr (1, [.int (nI P), .int (nI Y), .int (nI o), .int (nI t), .int (nI n), .ref (r), .int (nI q), .long (lN S), .int (nI h)])), (r, .inl (cI, 16, .inl (fun zz => nI (F zz))))] [a, r] rfl rfl rfl rfl rfl (by decide) (by decide) rfl (Nat.le_of_ble_eq_true rfl) dX6_soonest_39 (fun u_39 h_39 => ?_) rfl
          show J l _ D ε _ _ _ (.int (nI (b2n (decide ((F i) % 16 = pr)))) :: _)
          refine j_if_eq EE 77 dX6_soonest_42 (by decide) (fun c42 => ?_) (fun c42 => ?_)
          · skip
            have n42 : (b2n (decide ((F i) % 16 = pr))) = 0 := (nI_eq (a := (b2n (decide ((F i) % 16 = pr)))) (b := 0) (by have := b2n_lt (decide ((F i) % 16 = pr)); omega) (by have := b2n_lt (decide ((F i) % 16 = pr)); omega)).mp c42
            refine j_iinc (v := nI (i + 1)) EE 1 [(8, .int (nI (i + 1))), (9, _), (7, _), (6, _), (0, _), (1, _), (2, _), (4, _), (5, _)] dX6_soonest_77 rfl (nI_1 i) (Nat.lt_of_lt_of_eq (by decide) hL.symm) rfl ?_
            refine j_goto EE 13 dX6_soonest_80 (by decide) ?_
            refine j_lv [0, 2, 3, 4, 5, 6, 7, 8] rfl ?_
            exact ihp_13 (i + 1) b l1 (by omega) (by omega) (by omega) hb (by rw [← hq, soL_c (i := i) (by omega) (by omega)]; first | rw [if_neg (b2d_0 n42)] | rw [if_pos (b2d_1 n42), hm])
          · skip
            have n42 : (b2n (decide ((F i) % 16 = pr))) ≠ 0 := fun hq => c42 ((nI_eq (a := (b2n (decide ((F i) % 16 = pr)))) (b := 0) (by have := b2n_lt (decide ((F i) % 16 = pr)); omega) (by have := b2n_lt (decide ((F i) % 16 = pr)); omega)).mpr hq)
            refine j_aload_n EE 4 dX6_soonest_45 rfl rfl ?_
            refine j_iload EE 0 dX6_soonest_46 rfl ?_
            refine j_lload_n EE 6 dX6_soonest_48 rfl rfl ?_
            refine j_iload EE 7 dX6_soonest_49 rfl ?_
            refine j_iload EE 2 dX6_soonest_51 rfl ?_
            refine j_topE (y := nI (l1 - 1)) (pk_sub (by omega)) ?_
            refine j_S2 (n9 := 2) EE (c_X6_movesAfter a r P Y o t n q S h F f hf ht ho hn hF hMF (F i) sk hh (l1 - 1) (by have := hF i; omega) (by omega) (by omega) (by omega) (by have := hF i; omega)) gX6_soonest_X6_movesAfter hd_X6_movesAfter rfl ⟨rfl, rfl⟩ ⟨by simp only [rmD]; omega, by simp only [rmD]; omega⟩ rfl [0, 1] rfl [] [(a, .inr (1, [.int (nI P), .int (nI Y), .int (nI o), .int (nI t), .int (nI n), .ref (r), .int (nI q), .long (lN S), .int (nI h)])), (r, .inl (cI, 16, .inl (fun zz => nI (F zz))))] (fun _ => rfl) [] [a, r] rfl rfl rfl rfl rfl (by decide) (by decide) rfl (Nat.le_of_ble_eq_true rfl) dX6_soonest_53 (fun u_53 h_53 => ?_) rfl
            show J l _ D ε _ _ _ (.int (oI (mvF o t n F f (l1 - 1) ((F i) / 16 % 4) (sAft sk (F i)) (hAft hh (F i)))) :: _)
            refine j_istore EE [(10, _), (9, _), (8, _), (7, _), (6, _), (0, _), (1, _), (2, _), (4, _), (5, _)] dX6_soonest_56 (Nat.lt_of_lt_of_eq (by decide) hL.symm) rfl ?_
            refine j_iload EE 0 dX6_soonest_58 rfl ?_
            refine j_bipush (v := (-4)) EE dX6_soonest_60 (by decide) ?_
            refine j_icmp_eq EE 77 dX6_soonest_62 (by decide) (fun c62 => ?_) (fun c62 => ?_)
            · skip
              have hm := (oI_4 (fun z hz => by have := mvF_le _ _ _ _ _ _ hz; omega)).mp c62
              refine j_iinc (v := nI (i + 1)) EE 2 [(8, .int (nI (i + 1))), (10, _), (9, _), (7, _), (6, _), (0, _), (1, _), (2, _), (4, _), (5, _)] dX6_soonest_77 rfl (nI_1 i) (Nat.lt_of_lt_of_eq (by decide) hL.symm) rfl ?_
              refine j_goto EE 13 dX6_soonest_80 (by decide) ?_
              refine j_lv [0, 3, 4, 5, 6, 7, 8, 9] rfl ?_
              exact ihp_13 (i + 1) b l1 (by omega) (by omega) (by omega) hb (by rw [← hq, soL_c (i := i) (by omega) (by omega)]; first | rw [if_neg (b2d_0 n42)] | rw [if_pos (b2d_1 n42), hm])
            · skip
              obtain ⟨m, hm⟩ := Option.ne_none_iff_exists'.mp (fun hz => c62 ((oI_4 (fun z hz => by have := mvF_le _ _ _ _ _ _ hz; omega)).mpr hz))
              have hml := mvF_le _ _ _ _ _ _ hm
              rw [hm]
              refine j_iload EE 0 dX6_soonest_65 rfl ?_
              refine j_iconst (v := nI 1) EE dX6_soonest_67 (by decide) ?_
              refine j_iadd EE dX6_soonest_68 ?_
              refine j_topE (nI_add m 1) ?_
              refine j_istore EE [(6, _), (10, _), (9, _), (8, _), (7, _), (0, _), (1, _), (2, _), (4, _), (5, _)] dX6_soonest_69 (Nat.lt_of_lt_of_eq (by decide) hL.symm) rfl ?_
              refine j_iload EE 1 dX6_soonest_71 rfl ?_
              refine j_iconst (v := nI 1) EE dX6_soonest_73 (by decide) ?_
              refine j_isub EE dX6_soonest_74 ?_
              refine j_topE (y := nI m - nI 1) rfl ?_
              refine j_istore EE [(7, _), (6, _), (10, _), (9, _), (8, _), (0, _), (1, _), (2, _), (4, _), (5, _)] dX6_soonest_75 (Nat.lt_of_lt_of_eq (by decide) hL.symm) rfl ?_
              refine j_iinc (v := nI (i + 1)) EE 4 [(8, .int (nI (i + 1))), (7, _), (6, _), (10, _), (9, _), (0, _), (1, _), (2, _), (4, _), (5, _)] dX6_soonest_77 rfl (nI_1 i) (Nat.lt_of_lt_of_eq (by decide) hL.symm) rfl ?_
              refine j_goto EE 13 dX6_soonest_80 (by decide) ?_
              refine j_lv [0, 1, 2, 5, 6, 7, 8, 9] rfl ?_
              exact ihp_13 (i + 1) (some (m + 1)) m (by omega) (by omega) (by omega) (by intro z hz; cases hz; omega) (by rw [← hq, soL_c (i := i) (by omega) (by omega), if_pos (b2d_1 n42), hm])
  refine j_bipush (v := (-4)) EE dX6_soonest_0 (by decide) ?_
  refine j_topE (y := oI none) rfl ?_
  refine j_istore EE [(6, _), (0, _), (1, _), (2, _), (4, _), (5, _)] dX6_soonest_2 (Nat.lt_of_lt_of_eq (by decide) hL.symm) rfl ?_
  refine j_iload EE 5 dX6_soonest_4 rfl ?_
  refine j_iconst (v := nI 1) EE dX6_soonest_6 (by decide) ?_
  refine j_isub EE dX6_soonest_7 ?_
  refine j_topE (y := nI lim - nI 1) rfl ?_
  refine j_istore EE [(7, _), (6, _), (0, _), (1, _), (2, _), (4, _), (5, _)] dX6_soonest_8 (Nat.lt_of_lt_of_eq (by decide) hL.symm) rfl ?_
  refine j_iconst (v := nI 0) EE dX6_soonest_10 (by decide) ?_
  refine j_istore EE [(8, _), (7, _), (6, _), (0, _), (1, _), (2, _), (4, _), (5, _)] dX6_soonest_11 (Nat.lt_of_lt_of_eq (by decide) hL.symm) rfl ?_
  exact Lp_13 _ 0 none lim (Nat.lt_succ_self _) (by omega) (by omega) (by intro z hz; cases hz) rfl

theorem iw_X6_latest_X1 : ∀ w ∈ wsX10, w ∈ wsX6_latest := fun _ h => List.mem_cons_of_mem _ (List.mem_append_right _ h)
theorem lk_X6_latest_58 : Cond.fieldLink RX6 58 (TX1 4).1 (TX1 4).2.1 (TX1 4).2.2.1 ∈ wsX6_latest := List.mem_of_getElem? (i := 1) rfl
theorem lk_X6_latest_61 : Cond.fieldLink RX6 61 (TX1 5).1 (TX1 5).2.1 (TX1 5).2.2.1 ∈ wsX6_latest := List.mem_of_getElem? (i := 2) rfl
theorem mw_X6_latest_mm72 : Cond.methodLink RX6 72 Lib.Math.max.name ∈ wsX6_latest := List.mem_of_getElem? (i := 3) rfl
theorem mw_X6_latest_mmsmax : Cond.static Lib.Math.max.name ∈ wsX6_latest := List.mem_of_getElem? (i := 4) rfl
theorem mw_X6_latest_mmi : Cond.initialized "java/lang/Math" ∈ wsX6_latest := List.mem_of_getElem? (i := 5) rfl
theorem mw_X6_latest_mmcmax : Cond.code Lib.Math.max.name Lib.Math.max.code 2 (some .int) ∈ wsX6_latest := List.mem_of_getElem? (i := 6) rfl
set_option maxHeartbeats 4000000 in
set_option maxRecDepth 100000 in
theorem c_X6_latest (a r P Y o t n q S h : Nat) (F : Nat → Nat) (f : Nat) (hf : f ≤ 8) (ht : t < 16) (ho : o < 16) (hn : n ≤ 16) (hF : ∀ i, F i < 1024) (hMF : ∀ (lim2 p2 S2 h2 : Nat), lim2 ≤ f → p2 < 4 → S2 < 4 ^ (24 - f) → h2 + f ≤ 90 → Ct l yX6_movesFrom wsX6_movesFrom (rmD (3 * f + 3)) D [(cI, .int), (cC, .char), (cJ, .long), (cG, .object "PushdownGameSolver$Game")] [.ref a, .int (nI p2), .long (lN S2), .int (nI h2), .int (nI lim2)] [(a, .inr (1, [.int (nI P), .int (nI Y), .int (nI o), .int (nI t), .int (nI n), .ref (r), .int (nI q), .long (lN S), .int (nI h)])), (r, .inl (cI, 16, .inl (fun zz => nI (F zz))))] (S := Unit) (fun _ => True) (fun _ => some (.int (oI (mvF o t n F f lim2 p2 S2 h2)))) (fun _ => [(a, .inr (1, [.int (nI P), .int (nI Y), .int (nI o), .int (nI t), .int (nI n), .ref (r), .int (nI q), .long (lN S), .int (nI h)])), (r, .inl (cI, 16, .inl (fun zz => nI (F zz))))])) (pr sk hh lim : Nat) (hpr : pr < 16) (hS : sk < 4 ^ (24 - (f + 1))) (h1 : 1 ≤ hh) (hh9 : hh + f ≤ 89) (hlim : lim ≤ f + 1) (hlim1 : 1 ≤ lim) : Ct l yX6_latest wsX6_latest (rmD (3 * f + 5)) D [(cI, .int), (cC, .char), (cJ, .long), (cG, .object "PushdownGameSolver$Game")] [.ref (a), .int (nI pr), .long (lN sk), .int (nI hh), .int (nI lim)] [(a, .inr (1, [.int (nI P), .int (nI Y), .int (nI o), .int (nI t), .int (nI n), .ref (r), .int (nI q), .long (lN S), .int (nI h)])), (r, .inl (cI, 16, .inl (fun zz => nI (F zz))))] (S := Unit) (fun _ => True) (fun _ => some (.int (oI (ltL (mvF o t n F f (lim - 1)) F n pr sk hh n none)))) (fun _ => [(a, .inr (1, [.int (nI P), .int (nI Y), .int (nI o), .int (nI t), .int (nI n), .ref (r), .int (nI q), .long (lN S), .int (nI h)])), (r, .inl (cI, 16, .inl (fun zz => nI (F zz))))]) := by
  refine Ct.of (lv := [(0, .ref (a)), (1, .int (nI pr)), (2, .long (lN sk)), (4, .int (nI hh)), (5, .int (nI lim))]) (by decide) rfl (Nat.le_of_ble_eq_true rfl) rfl ?_
  intro ε hL EE FF
  have Lp_7 : ∀ (nf : Nat), ∀ (i : Nat) (b : Option Nat), 17 - i < nf → (i ≤ n) → (∀ z, b = some z → z < 1000) → (ltL (mvF o t n F f (lim - 1)) F n pr sk hh (n - i) b = ltL (mvF o t n F f (lim - 1)) F n pr sk hh n none) → J l (rmD (3 * f + 5)) D ε [(a, .inr (1, [.int (nI P), .int (nI Y), .int (nI o), .int (nI t), .int (nI n), .ref (r), .int (nI q), .long (lN S), .int (nI h)])), (r, .inl (cI, 16, .inl (fun zz => nI (F zz))))] 7 [(7, .int (nI i)), (6, .int (oI b)), (0, .ref (a)), (1, .int (nI pr)), (2, .long (lN sk)), (4, .int (nI hh)), (5, .int (nI lim))] [] := by
    intro nf
    induction nf with
    | zero => intro i b hm; exact absurd hm (Nat.not_lt_zero _)
    | succ nf ihp_7 =>
      intro i b hm7 hi hb hq
      refine j_iload EE 0 dX6_latest_7 rfl ?_
      refine j_aload_n EE 2 dX6_latest_9 rfl rfl ?_
      refine j_get (T := TX1) EE iw_X6_latest_X1 0 rfl rfl 4 (by decide) lk_X6_latest_58 rfl dX6_latest_10 ?_
      refine j_icmp_ge EE 76 dX6_latest_13 (by decide) (fun c13 => ?_) (fun c13 => ?_)
      · skip
        have n13 : n ≤ i := (nI_leI (a := n) (b := i) (by omega) (by omega)).mp c13
        refine j_iload EE 1 dX6_latest_76 rfl ?_
        exact j_iret EE FF dX6_latest_78 () trivial (by rw [← hq, show n - i = 0 by omega]; rfl) rfl
      · skip
        have n13 : ¬ n ≤ i := fun hq => c13 ((nI_leI (a := n) (b := i) (by omega) (by omega)).mpr hq)
        refine j_aload_n EE 2 dX6_latest_16 rfl rfl ?_
        refine j_get (T := TX1) EE iw_X6_latest_X1 0 rfl rfl 5 (by decide) lk_X6_latest_61 rfl dX6_latest_17 ?_
        refine j_iload EE 0 dX6_latest_20 rfl ?_
        refine j_iald EE 1 0 rfl rfl (vp_in_nI (n := i) (by omega) (by decide)) dX6_latest_22 ?_
        refine j_topE (congrArg (fun zz => nI (F zz)) (nI_clamp (n := i) (by omega))) ?_
        refine j_topE (y := nI (F i)) rfl ?_
        refine j_istore EE [(8, _), (7, _), (6, _), (0, _), (1, _), (2, _), (4, _), (5, _)] dX6_latest_23 (Nat.lt_of_lt_of_eq (by decide) hL.symm) rfl ?_
        refine j_iload EE 0 dX6_latest_25 rfl ?_
        refine j_iload_n EE 4 dX6_latest_27 rfl rfl ?_
        refine j_S2 (n9 := 2) EE (c_X5_fitsPair (F i) pr (by have := hF i; omega) (by have := hF i; omega)) gX6_latest_X5_fitsPair hd_X5_fitsPair rfl ⟨rfl, rfl⟩ ⟨by simp only [rmD]; omega, by simp only [rmD]; omega⟩ rfl [] rfl [0, 1] [(a, .inr (1, [.int (nI P), .int (nI Y), .int (nI o), .int (nI t), .int (nI n), .ref (r), .int (nI q), .long (lN S), .int (nI h)])), (r, .inl (cI, 16, .inl (fun zz => nI (F zz))))] (fun _ => rfl) [(a, .inr (1, [.int (nI P), .int (nI Y), .int (nI o), .int (nI t), .int (nI n), .ref (r), .int (nI q), .long (lN S), .int (nI h)])), (r, .inl (cI, 16, .inl (fun zz => nI (F zz))))] [a, r] rfl rfl rfl rfl rfl (by decide) (by decide) rfl (Nat.le_of_ble_eq_true rfl) dX6_latest_28 (fun u_28 h_28 => ?_) rfl
        show J l _ D ε _ _ _ (.int (nI (b2n (decide ((F i) % 16 = pr)))) :: _)
        refine j_if_eq EE 70 dX6_latest_31 (by decide) (fun c31 => ?_) (fun c31 => ?_)
        · skip
          have n31 : (b2n (decide ((F i) % 16 = pr))) = 0 := (nI_eq (a := (b2n (decide ((F i) % 16 = pr)))) (b := 0) (by have := b2n_lt (decide ((F i) % 16 = pr)); omega) (by have := b2n_lt (decide ((F i) % 16 = pr)); omega)).mp c31
          refine j_iinc (v := nI (i + 1)) EE 1 [(7, .int (nI (i + 1))), (8, _), (6, _), (0, _), (1, _), (2, _), (4, _), (5, _)] dX6_latest_70 rfl (nI_1 i) (Nat.lt_of_lt_of_eq (by decide) hL.symm) rfl ?_
          refine j_goto EE 7 dX6_latest_73 (by decide) ?_
          refine j_lv [0, 2, 3, 4, 5, 6, 7] rfl ?_
          exact ihp_7 (i + 1) b (by omega) (by omega) hb (by rw [← hq, ltL_c (i := i) (by omega)]; rw [if_neg (b2d_0 n31)])
        · skip
          have n31 : (b2n (decide ((F i) % 16 = pr))) ≠ 0 := fun hq => c31 ((nI_eq (a := (b2n (decide ((F i) % 16 = pr)))) (b := 0) (by have := b2n_lt (decide ((F i) % 16 = pr)); omega) (by have := b2n_lt (decide ((F i) % 16 = pr)); omega)).mpr hq)
          refine j_aload_n EE 3 dX6_latest_34 rfl rfl ?_
          refine j_iload EE 0 dX6_latest_35 rfl ?_
          refine j_lload_n EE 5 dX6_latest_37 rfl rfl ?_
          refine j_iload EE 6 dX6_latest_38 rfl ?_
          refine j_iload EE 7 dX6_latest_40 rfl ?_
          refine j_iconst (v := nI 1) EE dX6_latest_42 (by decide) ?_
          refine j_isub EE dX6_latest_43 ?_
          refine j_topE (pk_sub (a := lim) (b := 1) (by omega)) ?_
          refine j_S2 (n9 := 2) EE (c_X6_movesAfter a r P Y o t n q S h F f hf ht ho hn hF hMF (F i) sk hh (lim - 1) (by have := hF i; omega) (by omega) (by omega) (by omega) (by have := hF i; omega)) gX6_latest_X6_movesAfter hd_X6_movesAfter rfl ⟨rfl, rfl⟩ ⟨by simp only [rmD]; omega, by simp only [rmD]; omega⟩ rfl [0, 1] rfl [] [(a, .inr (1, [.int (nI P), .int (nI Y), .int (nI o), .int (nI t), .int (nI n), .ref (r), .int (nI q), .long (lN S), .int (nI h)])), (r, .inl (cI, 16, .inl (fun zz => nI (F zz))))] (fun _ => rfl) [] [a, r] rfl rfl rfl rfl rfl (by decide) (by decide) rfl (Nat.le_of_ble_eq_true rfl) dX6_latest_44 (fun u_44 h_44 => ?_) rfl
          show J l _ D ε _ _ _ (.int (oI (mvF o t n F f (lim - 1) ((F i) / 16 % 4) (sAft sk (F i)) (hAft hh (F i)))) :: _)
          refine j_istore EE [(9, _), (8, _), (7, _), (6, _), (0, _), (1, _), (2, _), (4, _), (5, _)] dX6_latest_47 (Nat.lt_of_lt_of_eq (by decide) hL.symm) rfl ?_
          refine j_iload EE 0 dX6_latest_49 rfl ?_
          refine j_bipush (v := (-4)) EE dX6_latest_51 (by decide) ?_
          refine j_icmp_ne EE 59 dX6_latest_53 (by decide) (fun c53 => ?_) (fun c53 => ?_)
          · skip
            obtain ⟨m, hm⟩ := Option.ne_none_iff_exists'.mp (fun hz => c53 ((oI_4 (fun z hz => by have := mvF_le _ _ _ _ _ _ hz; omega)).mpr hz))
            have hml := mvF_le _ _ _ _ _ _ hm
            rw [hm]
            refine j_iload EE 3 dX6_latest_59 rfl ?_
            refine j_iload EE 0 dX6_latest_61 rfl ?_
            refine j_iconst (v := nI 1) EE dX6_latest_63 (by decide) ?_
            refine j_iadd EE dX6_latest_64 ?_
            refine j_topE (nI_add m 1) ?_
            refine j_max EE mw_X6_latest_mm72 mw_X6_latest_mmsmax mw_X6_latest_mmi mw_X6_latest_mmcmax (by simp only [rmD]; omega) (by simp only [rmD]; exact Nat.le_trans (Nat.le_of_ble_eq_true (m := 40) rfl) (by omega)) dX6_latest_65 ?_
            refine j_topE (y := oI (some (max (b.getD 0) (m + 1)))) (max_o hb (by omega)) ?_
            refine j_istore EE [(6, _), (9, _), (8, _), (7, _), (0, _), (1, _), (2, _), (4, _), (5, _)] dX6_latest_68 (Nat.lt_of_lt_of_eq (by decide) hL.symm) rfl ?_
            refine j_iinc (v := nI (i + 1)) EE 3 [(7, .int (nI (i + 1))), (6, _), (9, _), (8, _), (0, _), (1, _), (2, _), (4, _), (5, _)] dX6_latest_70 rfl (nI_1 i) (Nat.lt_of_lt_of_eq (by decide) hL.symm) rfl ?_
            refine j_goto EE 7 dX6_latest_73 (by decide) ?_
            refine j_lv [0, 1, 4, 5, 6, 7, 8] rfl ?_
            exact ihp_7 (i + 1) (some (max (b.getD 0) (m + 1))) (by omega) (by omega) (by intro z hz; cases hz; have h9 : b.getD 0 < 1000 := (by cases b with | none => exact (by decide) | some w => exact hb w rfl); omega) (by rw [← hq, ltL_c (i := i) (by omega)]; rw [if_pos (b2d_1 n31), hm])
          · skip
            have hm := (oI_4 (fun z hz => by have := mvF_le _ _ _ _ _ _ hz; omega)).mp c53
            refine j_bipush (v := (-4)) EE dX6_latest_56 (by decide) ?_
            exact j_iret EE FF dX6_latest_58 () trivial (by rw [← hq, ltL_c (i := i) (by omega), if_pos (b2d_1 n31), hm]; rfl) rfl
  refine j_bipush (v := (-4)) EE dX6_latest_0 (by decide) ?_
  refine j_topE (y := oI none) rfl ?_
  refine j_istore EE [(6, _), (0, _), (1, _), (2, _), (4, _), (5, _)] dX6_latest_2 (Nat.lt_of_lt_of_eq (by decide) hL.symm) rfl ?_
  refine j_iconst (v := nI 0) EE dX6_latest_4 (by decide) ?_
  refine j_istore EE [(7, _), (6, _), (0, _), (1, _), (2, _), (4, _), (5, _)] dX6_latest_5 (Nat.lt_of_lt_of_eq (by decide) hL.symm) rfl ?_
  exact Lp_7 _ 0 none (Nat.lt_succ_self _) (by omega) (by intro z hz; cases hz) rfl

theorem iw_X6_movesFrom_X1 : ∀ w ∈ wsX10, w ∈ wsX6_movesFrom := fun _ h => List.mem_cons_of_mem _ (List.mem_append_right _ h)
theorem lk_X6_movesFrom_9 : Cond.fieldLink RX6 9 (TX1 3).1 (TX1 3).2.1 (TX1 3).2.2.1 ∈ wsX6_movesFrom := List.mem_of_getElem? (i := 1) rfl
theorem mw_X6_movesFrom_iX9 : Cond.initialized RX9 ∈ wsX6_movesFrom := List.mem_of_getElem? (i := 3) rfl
theorem mw_X6_movesFrom_s_X9_bit : Cond.static yX9_bit ∈ wsX6_movesFrom := List.mem_of_getElem? (i := 2) rfl
set_option maxHeartbeats 4000000 in
set_option maxRecDepth 100000 in
theorem c_X6_movesFrom0 (a r P Y o t n q S h : Nat) (F : Nat → Nat) (ht : t < 16) (p2 S2 h2 : Nat) (hp : p2 < 4) (hh9 : h2 ≤ 90) : Ct l yX6_movesFrom wsX6_movesFrom (rmD (3 * 0 + 3)) D [(cI, .int), (cC, .char), (cJ, .long), (cG, .object "PushdownGameSolver$Game")] [.ref (a), .int (nI p2), .long (lN S2), .int (nI h2), .int (nI 0)] [(a, .inr (1, [.int (nI P), .int (nI Y), .int (nI o), .int (nI t), .int (nI n), .ref (r), .int (nI q), .long (lN S), .int (nI h)])), (r, .inl (cI, 16, .inl (fun zz => nI (F zz))))] (S := Unit) (fun _ => True) (fun _ => some (.int (oI (mvF o t n F 0 0 p2 S2 h2)))) (fun _ => [(a, .inr (1, [.int (nI P), .int (nI Y), .int (nI o), .int (nI t), .int (nI n), .ref (r), .int (nI q), .long (lN S), .int (nI h)])), (r, .inl (cI, 16, .inl (fun zz => nI (F zz))))]) := by
  refine Ct.of (lv := [(0, .ref (a)), (1, .int (nI p2)), (2, .long (lN S2)), (4, .int (nI h2)), (5, .int (nI 0))]) (by decide) rfl (Nat.le_of_ble_eq_true rfl) rfl ?_
  intro ε hL EE FF
  refine j_aload_n EE 0 dX6_movesFrom_0 rfl rfl ?_
  refine j_get (T := TX1) EE iw_X6_movesFrom_X1 0 rfl rfl 3 (by decide) lk_X6_movesFrom_9 rfl dX6_movesFrom_1 ?_
  refine j_iload_n EE 1 dX6_movesFrom_4 rfl rfl ?_
  refine j_SN2 (n9 := 2) EE (c_X9_bit t p2 (by omega) (by omega)) gX6_movesFrom_X9_bit_n15 hd_X9_bit (by decide) mw_X6_movesFrom_iX9 mw_X6_movesFrom_s_X9_bit rfl ⟨rfl, rfl⟩ ⟨by simp only [rmD]; omega, by simp only [rmD]; omega⟩ rfl [] rfl [0, 1] [(a, .inr (1, [.int (nI P), .int (nI Y), .int (nI o), .int (nI t), .int (nI n), .ref (r), .int (nI q), .long (lN S), .int (nI h)])), (r, .inl (cI, 16, .inl (fun zz => nI (F zz))))] (fun _ => rfl) [(a, .inr (1, [.int (nI P), .int (nI Y), .int (nI o), .int (nI t), .int (nI n), .ref (r), .int (nI q), .long (lN S), .int (nI h)])), (r, .inl (cI, 16, .inl (fun zz => nI (F zz))))] [a, r] rfl rfl rfl rfl rfl (by decide) (by decide) rfl (Nat.le_of_ble_eq_true rfl) dX6_movesFrom_5 (fun u_5 h_5 => ?_) rfl
  show J l _ D ε _ _ _ (.int (nI (bt t p2)) :: _)
  refine j_iconst (v := nI 1) EE dX6_movesFrom_8 (by decide) ?_
  refine j_icmp_ne EE 14 dX6_movesFrom_9 (by decide) (fun c9 => ?_) (fun c9 => ?_)
  · skip
    have n9 : (bt t p2) ≠ 1 := fun hq => c9 ((nI_eq (a := (bt t p2)) (b := 1) (by have := bt_lt t p2; omega) (by have := bt_lt t p2; omega)).mpr hq)
    refine j_iload EE 3 dX6_movesFrom_14 rfl ?_
    refine j_if_le EE 24 dX6_movesFrom_16 (by decide) (fun c16 => ?_) (fun c16 => ?_)
    · skip
      have n16 : h2 ≤ 0 := (nI_leI (a := h2) (b := 0) (by omega) (by omega)).mp c16
      refine j_bipush (v := (-4)) EE dX6_movesFrom_24 (by decide) ?_
      exact j_iret EE FF dX6_movesFrom_26 () trivial (by unfold mvF; rw [if_neg n9]; rfl) rfl
    · skip
      have n16 : ¬ h2 ≤ 0 := fun hq => c16 ((nI_leI (a := h2) (b := 0) (by omega) (by omega)).mpr hq)
      refine j_iload EE 4 dX6_movesFrom_19 rfl ?_
      refine j_if_gt EE 27 dX6_movesFrom_21 (by decide) (fun c21 => absurd c21 (by decide)) (fun c21 => ?_)
      have n21 : ¬ 0 < 0 := fun hq => c21 ((nI_ltI (a := 0) (b := 0) (by omega) (by omega)).mpr hq)
      refine j_bipush (v := (-4)) EE dX6_movesFrom_24 (by decide) ?_
      exact j_iret EE FF dX6_movesFrom_26 () trivial (by unfold mvF; rw [if_neg n9]; rfl) rfl
  · skip
    have n9 : (bt t p2) = 1 := (nI_eq (a := (bt t p2)) (b := 1) (by have := bt_lt t p2; omega) (by have := bt_lt t p2; omega)).mp c9
    refine j_iconst (v := nI 0) EE dX6_movesFrom_12 (by decide) ?_
    exact j_iret EE FF dX6_movesFrom_13 () trivial (by unfold mvF; rw [if_pos n9]; rfl) rfl

theorem hd_X6_soonest : yX6_soonest.cls ≠ "java/lang/invoke/MethodHandle" ∧ yX6_soonest.cls ≠ "java/lang/invoke/VarHandle" ∧ (parseMethodDescriptor yX6_soonest.desc).map (fun d => d.parameters.length) = some 5 := by decide +kernel
theorem hd_X6_latest : yX6_latest.cls ≠ "java/lang/invoke/MethodHandle" ∧ yX6_latest.cls ≠ "java/lang/invoke/VarHandle" ∧ (parseMethodDescriptor yX6_latest.desc).map (fun d => d.parameters.length) = some 5 := by decide +kernel
set_option maxHeartbeats 4000000 in
set_option maxRecDepth 100000 in
theorem c_X6_movesFromS (a r P Y o t n q S h : Nat) (F : Nat → Nat) (f : Nat) (hf : f ≤ 8) (ht : t < 16) (ho : o < 16) (hn : n ≤ 16) (hF : ∀ i, F i < 1024) (hMF : ∀ (lim2 p2 S2 h2 : Nat), lim2 ≤ f → p2 < 4 → S2 < 4 ^ (24 - f) → h2 + f ≤ 90 → Ct l yX6_movesFrom wsX6_movesFrom (rmD (3 * f + 3)) D [(cI, .int), (cC, .char), (cJ, .long), (cG, .object "PushdownGameSolver$Game")] [.ref a, .int (nI p2), .long (lN S2), .int (nI h2), .int (nI lim2)] [(a, .inr (1, [.int (nI P), .int (nI Y), .int (nI o), .int (nI t), .int (nI n), .ref (r), .int (nI q), .long (lN S), .int (nI h)])), (r, .inl (cI, 16, .inl (fun zz => nI (F zz))))] (S := Unit) (fun _ => True) (fun _ => some (.int (oI (mvF o t n F f lim2 p2 S2 h2)))) (fun _ => [(a, .inr (1, [.int (nI P), .int (nI Y), .int (nI o), .int (nI t), .int (nI n), .ref (r), .int (nI q), .long (lN S), .int (nI h)])), (r, .inl (cI, 16, .inl (fun zz => nI (F zz))))])) (lim p2 S2 h2 : Nat) (hlim : lim ≤ f + 1) (hp : p2 < 4) (hS : S2 < 4 ^ (24 - (f + 1))) (hh9 : h2 + f ≤ 89) : Ct l yX6_movesFrom wsX6_movesFrom (rmD (3 * (f + 1) + 3)) D [(cI, .int), (cC, .char), (cJ, .long), (cG, .object "PushdownGameSolver$Game")] [.ref (a), .int (nI p2), .long (lN S2), .int (nI h2), .int (nI lim)] [(a, .inr (1, [.int (nI P), .int (nI Y), .int (nI o), .int (nI t), .int (nI n), .ref (r), .int (nI q), .long (lN S), .int (nI h)])), (r, .inl (cI, 16, .inl (fun zz => nI (F zz))))] (S := Unit) (fun _ => True) (fun _ => some (.int (oI (mvF o t n F (f + 1) lim p2 S2 h2)))) (fun _ => [(a, .inr (1, [.int (nI P), .int (nI Y), .int (nI o), .int (nI t), .int (nI n), .ref (r), .int (nI q), .long (lN S), .int (nI h)])), (r, .inl (cI, 16, .inl (fun zz => nI (F zz))))]) := by
  refine Ct.of (lv := [(0, .ref (a)), (1, .int (nI p2)), (2, .long (lN S2)), (4, .int (nI h2)), (5, .int (nI lim))]) (by decide) rfl (Nat.le_of_ble_eq_true rfl) rfl ?_
  intro ε hL EE FF
  have hpb : 4 ^ (24 - (f + 1)) ≤ 4 ^ (24 - f) := Nat.pow_le_pow_right (by decide) (by omega)
  have hpc := p4_lt hf
  refine j_aload_n EE 0 dX6_movesFrom_0 rfl rfl ?_
  refine j_get (T := TX1) EE iw_X6_movesFrom_X1 0 rfl rfl 3 (by decide) lk_X6_movesFrom_9 rfl dX6_movesFrom_1 ?_
  refine j_iload_n EE 1 dX6_movesFrom_4 rfl rfl ?_
  refine j_SN2 (n9 := 2) EE (c_X9_bit t p2 (by omega) (by omega)) gX6_movesFrom_X9_bit_n15 hd_X9_bit (by decide) mw_X6_movesFrom_iX9 mw_X6_movesFrom_s_X9_bit rfl ⟨rfl, rfl⟩ ⟨by simp only [rmD]; omega, by simp only [rmD]; omega⟩ rfl [] rfl [0, 1] [(a, .inr (1, [.int (nI P), .int (nI Y), .int (nI o), .int (nI t), .int (nI n), .ref (r), .int (nI q), .long (lN S), .int (nI h)])), (r, .inl (cI, 16, .inl (fun zz => nI (F zz))))] (fun _ => rfl) [(a, .inr (1, [.int (nI P), .int (nI Y), .int (nI o), .int (nI t), .int (nI n), .ref (r), .int (nI q), .long (lN S), .int (nI h)])), (r, .inl (cI, 16, .inl (fun zz => nI (F zz))))] [a, r] rfl rfl rfl rfl rfl (by decide) (by decide) rfl (Nat.le_of_ble_eq_true rfl) dX6_movesFrom_5 (fun u_5 h_5 => ?_) rfl
  show J l _ D ε _ _ _ (.int (nI (bt t p2)) :: _)
  refine j_iconst (v := nI 1) EE dX6_movesFrom_8 (by decide) ?_
  refine j_icmp_ne EE 14 dX6_movesFrom_9 (by decide) (fun c9 => ?_) (fun c9 => ?_)
  · skip
    have n9 : (bt t p2) ≠ 1 := fun hq => c9 ((nI_eq (a := (bt t p2)) (b := 1) (by have := bt_lt t p2; omega) (by have := bt_lt t p2; omega)).mpr hq)
    refine j_iload EE 3 dX6_movesFrom_14 rfl ?_
    refine j_if_le EE 24 dX6_movesFrom_16 (by decide) (fun c16 => ?_) (fun c16 => ?_)
    · skip
      have n16 : h2 ≤ 0 := (nI_leI (a := h2) (b := 0) (by omega) (by omega)).mp c16
      refine j_bipush (v := (-4)) EE dX6_movesFrom_24 (by decide) ?_
      exact j_iret EE FF dX6_movesFrom_26 () trivial (by unfold mvF; rw [if_neg n9, if_pos (by omega)]; rfl) rfl
    · skip
      have n16 : ¬ h2 ≤ 0 := fun hq => c16 ((nI_leI (a := h2) (b := 0) (by omega) (by omega)).mpr hq)
      refine j_iload EE 4 dX6_movesFrom_19 rfl ?_
      refine j_if_gt EE 27 dX6_movesFrom_21 (by decide) (fun c21 => ?_) (fun c21 => ?_)
      · skip
        have n21 : 0 < lim := (nI_ltI (a := 0) (b := lim) (by omega) (by omega)).mp c21
        refine j_iload_n EE 1 dX6_movesFrom_27 rfl rfl ?_
        refine j_lload_n EE 2 dX6_movesFrom_28 rfl rfl ?_
        refine j_iconst (v := nI 0) EE dX6_movesFrom_29 (by decide) ?_
        refine j_S2 (n9 := 2) EE (c_X7_symbolAt S2 0 (by omega) (by omega)) gX6_movesFrom_X7_symbolAt hd_X7_symbolAt rfl ⟨rfl, rfl⟩ ⟨by simp only [rmD]; omega, by simp only [rmD]; omega⟩ rfl [] rfl [0, 1] [(a, .inr (1, [.int (nI P), .int (nI Y), .int (nI o), .int (nI t), .int (nI n), .ref (r), .int (nI q), .long (lN S), .int (nI h)])), (r, .inl (cI, 16, .inl (fun zz => nI (F zz))))] (fun _ => rfl) [(a, .inr (1, [.int (nI P), .int (nI Y), .int (nI o), .int (nI t), .int (nI n), .ref (r), .int (nI q), .long (lN S), .int (nI h)])), (r, .inl (cI, 16, .inl (fun zz => nI (F zz))))] [a, r] rfl rfl rfl rfl rfl (by decide) (by decide) rfl (Nat.le_of_ble_eq_true rfl) dX6_movesFrom_30 (fun u_30 h_30 => ?_) rfl
        show J l _ D ε _ _ _ (.int (nI (S2 / 4 ^ 0 % 4)) :: _)
        refine j_topE (y := nI (S2 % 4)) (by rw [Nat.pow_zero, Nat.div_one]) ?_
        show J l _ D ε _ _ _ (.int (nI (S2 % 4)) :: _)
        refine j_S2 (n9 := 2) EE (c_X4_of p2 (S2 % 4) (by omega) (by omega)) gX6_movesFrom_X4_of hd_X4_of rfl ⟨rfl, rfl⟩ ⟨by simp only [rmD]; omega, by simp only [rmD]; omega⟩ rfl [] rfl [0, 1] [(a, .inr (1, [.int (nI P), .int (nI Y), .int (nI o), .int (nI t), .int (nI n), .ref (r), .int (nI q), .long (lN S), .int (nI h)])), (r, .inl (cI, 16, .inl (fun zz => nI (F zz))))] (fun _ => rfl) [(a, .inr (1, [.int (nI P), .int (nI Y), .int (nI o), .int (nI t), .int (nI n), .ref (r), .int (nI q), .long (lN S), .int (nI h)])), (r, .inl (cI, 16, .inl (fun zz => nI (F zz))))] [a, r] rfl rfl rfl rfl rfl (by decide) (by decide) rfl (Nat.le_of_ble_eq_true rfl) dX6_movesFrom_33 (fun u_33 h_33 => ?_) rfl
        show J l _ D ε _ _ _ (.int (nI (p2 + 4 * (S2 % 4))) :: _)
        refine j_istore EE [(6, _), (0, _), (1, _), (2, _), (4, _), (5, _)] dX6_movesFrom_36 (Nat.lt_of_lt_of_eq (by decide) hL.symm) rfl ?_
        refine j_aload_n EE 1 dX6_movesFrom_38 rfl rfl ?_
        refine j_iload_n EE 2 dX6_movesFrom_39 rfl rfl ?_
        refine j_V2 (n9 := 2) EE (c_X1_owner a r P Y o t n q S h F p2 (by omega) (by omega)) gX6_movesFrom_X1_owner ⟨rfl, hd_X1_owner⟩ rfl ⟨rfl, rfl⟩ ⟨by simp only [rmD]; omega, by simp only [rmD]; omega⟩ rfl [0, 1] rfl [] [(a, .inr (1, [.int (nI P), .int (nI Y), .int (nI o), .int (nI t), .int (nI n), .ref (r), .int (nI q), .long (lN S), .int (nI h)])), (r, .inl (cI, 16, .inl (fun zz => nI (F zz))))] (fun _ => rfl) [] [a, r] rfl rfl rfl rfl rfl (by decide) (by decide) 0 rfl rfl rfl (Nat.le_of_ble_eq_true rfl) dX6_movesFrom_40 (fun u_40 h_40 => ?_) rfl
        show J l _ D ε _ _ _ (.int (nI (bt o p2)) :: _)
        refine j_iconst (v := nI 1) EE dX6_movesFrom_43 (by decide) ?_
        refine j_icmp_ne EE 59 dX6_movesFrom_44 (by decide) (fun c44 => ?_) (fun c44 => ?_)
        · skip
          have n44 : (bt o p2) ≠ 1 := fun hq => c44 ((nI_eq (a := (bt o p2)) (b := 1) (by have := bt_lt o p2; omega) (by have := bt_lt o p2; omega)).mpr hq)
          refine j_aload_n EE 1 dX6_movesFrom_59 rfl rfl ?_
          refine j_iload EE 0 dX6_movesFrom_60 rfl ?_
          refine j_lload_n EE 3 dX6_movesFrom_62 rfl rfl ?_
          refine j_iload EE 4 dX6_movesFrom_63 rfl ?_
          refine j_iload EE 5 dX6_movesFrom_65 rfl ?_
          refine j_S2 (n9 := 2) EE (c_X6_soonest a r P Y o t n q S h F f hf ht ho hn hF hMF (p2 + 4 * (S2 % 4)) S2 h2 lim (by omega) hS (by omega) (by omega) (by omega) (by omega)) gX6_movesFrom_X6_soonest hd_X6_soonest rfl ⟨rfl, rfl⟩ ⟨by simp only [rmD]; omega, by simp only [rmD]; omega⟩ rfl [0, 1] rfl [] [(a, .inr (1, [.int (nI P), .int (nI Y), .int (nI o), .int (nI t), .int (nI n), .ref (r), .int (nI q), .long (lN S), .int (nI h)])), (r, .inl (cI, 16, .inl (fun zz => nI (F zz))))] (fun _ => rfl) [] [a, r] rfl rfl rfl rfl rfl (by decide) (by decide) rfl (Nat.le_of_ble_eq_true rfl) dX6_movesFrom_67 (fun u_67 h_67 => ?_) rfl
          show J l _ D ε _ _ _ (.int (oI (soL (mvF o t n F f) F n (p2 + 4 * (S2 % 4)) S2 h2 n none lim)) :: _)
          exact j_iret EE FF dX6_movesFrom_70 () trivial (by unfold mvF; rw [if_neg n9, if_neg (by omega), if_neg n44]) rfl
        · skip
          have n44 : (bt o p2) = 1 := (nI_eq (a := (bt o p2)) (b := 1) (by have := bt_lt o p2; omega) (by have := bt_lt o p2; omega)).mp c44
          refine j_aload_n EE 1 dX6_movesFrom_47 rfl rfl ?_
          refine j_iload EE 0 dX6_movesFrom_48 rfl ?_
          refine j_lload_n EE 3 dX6_movesFrom_50 rfl rfl ?_
          refine j_iload EE 4 dX6_movesFrom_51 rfl ?_
          refine j_iload EE 5 dX6_movesFrom_53 rfl ?_
          refine j_S2 (n9 := 2) EE (c_X6_latest a r P Y o t n q S h F f hf ht ho hn hF hMF (p2 + 4 * (S2 % 4)) S2 h2 lim (by omega) hS (by omega) (by omega) (by omega) (by omega)) gX6_movesFrom_X6_latest hd_X6_latest rfl ⟨rfl, rfl⟩ ⟨by simp only [rmD]; omega, by simp only [rmD]; omega⟩ rfl [0, 1] rfl [] [(a, .inr (1, [.int (nI P), .int (nI Y), .int (nI o), .int (nI t), .int (nI n), .ref (r), .int (nI q), .long (lN S), .int (nI h)])), (r, .inl (cI, 16, .inl (fun zz => nI (F zz))))] (fun _ => rfl) [] [a, r] rfl rfl rfl rfl rfl (by decide) (by decide) rfl (Nat.le_of_ble_eq_true rfl) dX6_movesFrom_55 (fun u_55 h_55 => ?_) rfl
          show J l _ D ε _ _ _ (.int (oI (ltL (mvF o t n F f (lim - 1)) F n (p2 + 4 * (S2 % 4)) S2 h2 n none)) :: _)
          exact j_iret EE FF dX6_movesFrom_58 () trivial (by unfold mvF; rw [if_neg n9, if_neg (by omega), if_pos n44]) rfl
      · skip
        have n21 : ¬ 0 < lim := fun hq => c21 ((nI_ltI (a := 0) (b := lim) (by omega) (by omega)).mpr hq)
        refine j_bipush (v := (-4)) EE dX6_movesFrom_24 (by decide) ?_
        exact j_iret EE FF dX6_movesFrom_26 () trivial (by unfold mvF; rw [if_neg n9, if_pos (by omega)]; rfl) rfl
  · skip
    have n9 : (bt t p2) = 1 := (nI_eq (a := (bt t p2)) (b := 1) (by have := bt_lt t p2; omega) (by have := bt_lt t p2; omega)).mp c9
    refine j_iconst (v := nI 0) EE dX6_movesFrom_12 (by decide) ?_
    exact j_iret EE FF dX6_movesFrom_13 () trivial (by unfold mvF; rw [if_pos n9]; rfl) rfl

set_option maxHeartbeats 4000000 in
set_option maxRecDepth 100000 in
theorem c_X6_movesFrom (a r P Y o t n q S h : Nat) (F : Nat → Nat) (f : Nat) (hf : f ≤ 9) (ht : t < 16) (ho : o < 16) (hn : n ≤ 16) (hF : ∀ i, F i < 1024) (lim2 p2 S2 h2 : Nat) (hlim : lim2 ≤ f) (hp : p2 < 4) (hS : S2 < 4 ^ (24 - f)) (hh9 : h2 + f ≤ 90) : Ct l yX6_movesFrom wsX6_movesFrom (rmD (3 * f + 3)) D [(cI, .int), (cC, .char), (cJ, .long), (cG, .object "PushdownGameSolver$Game")] [.ref (a), .int (nI p2), .long (lN S2), .int (nI h2), .int (nI lim2)] [(a, .inr (1, [.int (nI P), .int (nI Y), .int (nI o), .int (nI t), .int (nI n), .ref (r), .int (nI q), .long (lN S), .int (nI h)])), (r, .inl (cI, 16, .inl (fun zz => nI (F zz))))] (S := Unit) (fun _ => True) (fun _ => some (.int (oI (mvF o t n F f lim2 p2 S2 h2)))) (fun _ => [(a, .inr (1, [.int (nI P), .int (nI Y), .int (nI o), .int (nI t), .int (nI n), .ref (r), .int (nI q), .long (lN S), .int (nI h)])), (r, .inl (cI, 16, .inl (fun zz => nI (F zz))))]) := by
  induction f generalizing lim2 p2 S2 h2 with
  | zero =>
    obtain rfl : lim2 = 0 := by omega
    exact c_X6_movesFrom0 a r P Y o t n q S h F ht p2 S2 h2 hp (by omega)
  | succ f ihf =>
    exact c_X6_movesFromS a r P Y o t n q S h F f (by omega) ht ho hn hF (fun lim2 p2 S2 h2 g1 g2 g3 g4 => ihf (by omega) lim2 p2 S2 h2 g1 g2 g3 g4) lim2 p2 S2 h2 hlim hp hS (by omega)

end G_27_search
