section G_26_sets
variable {l : Launch} {D : va_G} {cI cC cJ cG : ClassId}

theorem nI_and (x y : Nat) : nI x &&& nI y = nI (x &&& y) := by
  apply Int32.toBitVec_inj.mp
  show BitVec.ofNat 32 x &&& BitVec.ofNat 32 y = BitVec.ofNat 32 (x &&& y)
  rw [BitVec.ofNat_and]
theorem nI_or (x y : Nat) : nI x ||| nI y = nI (x ||| y) := by
  apply Int32.toBitVec_inj.mp
  show BitVec.ofNat 32 x ||| BitVec.ofNat 32 y = BitVec.ofNat 32 (x ||| y)
  rw [BitVec.ofNat_or]
theorem and_lt {x y : Nat} (h : x < 65536) : x &&& y < 65536 := Nat.lt_of_le_of_lt Nat.and_le_left h
theorem or_lt {x y : Nat} (hx : x < 65536) (hy : y < 65536) : x ||| y < 65536 := Nat.or_lt_two_pow (n := 16) hx hy
/-- the sets from which all states of u are forced with y below -/
def cmF (A : Nat → Nat) (u y : Nat) : Nat → Nat
  | 0 => 65535
  | v + 1 => if bt u v = 1 then cmF A u y v &&& A (v + 4 * y) else cmF A u y v
theorem cmF_lt (A : Nat → Nat) (u y : Nat) : ∀ v, cmF A u y v < 65536
  | 0 => Nat.le_of_ble_eq_true rfl
  | v + 1 => by
    unfold cmF
    split
    · exact and_lt (cmF_lt A u y v)
    · exact cmF_lt A u y v
def yL (A : Nat → Nat) (up y : Nat) : Nat → Nat
  | 0 => 0
  | s + 1 => if bt up s = 1 then yL A up y s ||| cmF A s y 4 else yL A up y s
theorem yL_lt (A : Nat → Nat) (up y : Nat) : ∀ v, yL A up y v < 65536
  | 0 => Nat.le_of_ble_eq_true rfl
  | v + 1 => by
    unfold yL
    split
    · exact or_lt (yL_lt A up y v) (cmF_lt A v y 4)
    · exact yL_lt A up y v
def yB (t : Nat) (A : Nat → Nat) (k : Nat) : Nat := if bt t (k / 16 % 4) = 1 then 65535 else if k / 64 % 4 = 0 then swsN (k / 16 % 4) else if k / 256 % 4 = 0 then A (k / 16 % 4 + 4 * (k / 64 % 4 - 1)) else yL A (A (k / 16 % 4 + 4 * (k / 64 % 4 - 1))) (k / 256 % 4 - 1) 16
theorem swsN_lt (j : Nat) : swsN j < 65536 := by unfold swsN; (repeat' split) <;> omega
theorem yB_lt {t : Nat} {A : Nat → Nat} {k : Nat} (hA : ∀ i, A i < 65536) : yB t A k < 65536 := by
  unfold yB
  split
  · omega
  · split
    · exact swsN_lt _
    · split
      · exact hA _
      · exact yL_lt _ _ _ _
def fAny (t : Nat) (A F : Nat → Nat) (pr : Nat) : Nat → Nat
  | 0 => 0
  | i + 1 => if F i % 16 = pr then fAny t A F pr i ||| yB t A (F i) else fAny t A F pr i
def fAll (t : Nat) (A F : Nat → Nat) (pr : Nat) : Nat → Nat
  | 0 => 65535
  | i + 1 => if F i % 16 = pr then fAll t A F pr i &&& yB t A (F i) else fAll t A F pr i
def fHas (F : Nat → Nat) (pr : Nat) : Nat → Nat
  | 0 => 0
  | i + 1 => if F i % 16 = pr then 1 else fHas F pr i
theorem fAny_lt {t : Nat} {A F : Nat → Nat} {pr : Nat} (hA : ∀ i, A i < 65536) : ∀ i, fAny t A F pr i < 65536
  | 0 => Nat.le_of_ble_eq_true rfl
  | i + 1 => by
    unfold fAny
    split
    · exact or_lt (fAny_lt hA i) (yB_lt hA)
    · exact fAny_lt hA i
theorem fAll_lt {t : Nat} {A F : Nat → Nat} {pr : Nat} : ∀ i, fAll t A F pr i < 65536
  | 0 => Nat.le_of_ble_eq_true rfl
  | i + 1 => by
    unfold fAll
    split
    · exact and_lt (fAll_lt i)
    · exact fAll_lt i
theorem fHas_lt (F : Nat → Nat) (pr : Nat) : ∀ i, fHas F pr i < 2
  | 0 => Nat.le_of_ble_eq_true rfl
  | i + 1 => by
    unfold fHas
    split
    · decide
    · exact fHas_lt F pr i
def fNx (o t n : Nat) (A F : Nat → Nat) (p pr : Nat) : Nat := if bt t p = 1 then 65535 else if bt o p = 1 then (if fHas F pr n = 0 then 0 else fAll t A F pr n) else fAny t A F pr n
theorem fNx_lt {o t n : Nat} {A F : Nat → Nat} {p pr : Nat} (hA : ∀ i, A i < 65536) : fNx o t n A F p pr < 65536 := by
  unfold fNx
  split
  · omega
  · split
    · split
      · omega
      · exact fAll_lt n
    · exact fAny_lt hA n
def aaL (t : Nat) (A : Nat → Nat) (u y : Nat) : Nat → Nat
  | 0 => t
  | p + 1 => if bt (A (p + 4 * y)) u = 1 then wbit (aaL t A u y p) p 1 else aaL t A u y p
theorem aaL_lt {t : Nat} {A : Nat → Nat} {u y : Nat} (ht : t < 16) : ∀ p, p ≤ 4 → aaL t A u y p < 16
  | 0, _ => ht
  | p + 1, hp => by
    unfold aaL
    split
    · exact wbit_lt _ (aaL_lt ht p (by omega)) p (by omega) 1 (by decide)
    · exact aaL_lt ht p (by omega)
/-- the states accepted with the k lowest symbols of a stack of h -/
def acD (t P : Nat) (A : Nat → Nat) (S h : Nat) : Nat → Nat
  | 0 => t
  | k + 1 => aaL t A (acD t P A S h k) (S / 4 ^ (h - 1 - k) % 4) P
theorem acD_lt {t P : Nat} {A : Nat → Nat} {S h : Nat} (ht : t < 16) (hP : P ≤ 4) : ∀ k, acD t P A S h k < 16
  | 0 => ht
  | k + 1 => aaL_lt ht P hP
def mnB (fam s : Nat) : Nat → Bool
  | 0 => true
  | v + 1 => mnB fam s v && !(decide (bt s v = 1) && decide (bt fam (wbit s v 0) = 1))
def isMin (fam s : Nat) : Bool := decide (bt fam s = 1) && mnB fam s 4
theorem mnB_f {fam s v : Nat} (h1 : bt s v = 1) (h2 : bt fam (wbit s v 0) = 1) : ∀ n, v < n → mnB fam s n = false
  | 0, h => absurd h (Nat.not_lt_zero _)
  | n + 1, h => by
    unfold mnB
    by_cases hv : v = n
    · subst hv
      simp [h1, h2]
    · rw [mnB_f h1 h2 n (by omega)]
      rfl
def mnC (fam : Nat) : Nat → Nat
  | 0 => 0
  | s + 1 => mnC fam s + b2n (isMin fam s)
theorem mnC_le (fam : Nat) : ∀ s, mnC fam s ≤ s
  | 0 => Nat.le_refl 0
  | s + 1 => by
    have h1 := mnC_le fam s
    have h2 := b2n_lt (isMin fam s)
    unfold mnC
    omega
def mfL (fam j : Nat) : Nat → Nat → Int32
  | 0, _ => (-4)
  | f + 1, s => if isMin fam s = true ∧ mnC fam s = j then nI s else mfL fam j f (s + 1)
theorem mfL_s {fam j s : Nat} (hs : s < 16) (h : ¬ (isMin fam s = true ∧ mnC fam s = j)) : mfL fam j (16 - (s + 1)) (s + 1) = mfL fam j (16 - s) s := by
  rw [show 16 - s = (16 - (s + 1)) + 1 by omega]
  conv => rhs; unfold mfL
  rw [if_neg h]
/-- the pairs that a round has gone through when it stands at symbol y and state p -/
def dn (P y p i : Nat) : Prop := (i / 4 < y ∨ (i / 4 = y ∧ i % 4 < p)) ∧ i % 4 < P
theorem dn_dec (P y p i : Nat) : (dn P y p i) ∨ ¬ (dn P y p i) := Classical.em _
def cmg (o t n P : Nat) (A C F : Nat → Nat) (y p : Nat) : Nat → Nat := fun i => if (i / 4 < y ∨ (i / 4 = y ∧ i % 4 < p)) ∧ i % 4 < P then fNx o t n A F (i % 4) i else C i
def chg (o t n P : Nat) (A F : Nat → Nat) (y p : Nat) : Bool := (List.range 16).any (fun i => decide (((i / 4 < y ∨ (i / 4 = y ∧ i % 4 < p)) ∧ i % 4 < P) ∧ fNx o t n A F (i % 4) i ≠ A i))
theorem chg_iff {o t n P : Nat} {A F : Nat → Nat} {y p : Nat} : chg o t n P A F y p = true ↔ ∃ i, i < 16 ∧ ((i / 4 < y ∨ (i / 4 = y ∧ i % 4 < p)) ∧ i % 4 < P) ∧ fNx o t n A F (i % 4) i ≠ A i := by
  unfold chg
  rw [List.any_eq_true]
  constructor
  · rintro ⟨i, h1, h2⟩
    exact ⟨i, List.mem_range.mp h1, of_decide_eq_true h2⟩
  · rintro ⟨i, h1, h2⟩
    exact ⟨i, List.mem_range.mpr h1, decide_eq_true h2⟩
theorem chg_0 (o t n P : Nat) (A F : Nat → Nat) : chg o t n P A F 0 0 = false := by
  rw [Bool.eq_false_iff, Ne, chg_iff]
  rintro ⟨i, h1, h2, h3⟩
  omega
theorem chg_t {o t n P : Nat} {A F : Nat → Nat} {y p : Nat} (h : chg o t n P A F y p = true) : chg o t n P A F y (p + 1) = true := by
  rw [chg_iff] at h ⊢
  obtain ⟨i, h1, h2, h3⟩ := h
  exact ⟨i, h1, by omega, h3⟩
theorem chg_n {o t n P : Nat} {A F : Nat → Nat} {y p : Nat} (hp : p < P) (hP : P ≤ 4) (hy : y < 4) (h : fNx o t n A F p (p + 4 * y) ≠ A (p + 4 * y)) : chg o t n P A F y (p + 1) = true := by
  rw [chg_iff]
  refine ⟨p + 4 * y, by omega, by omega, ?_⟩
  rw [show (p + 4 * y) % 4 = p by omega]
  exact h
theorem chg_k {o t n P : Nat} {A F : Nat → Nat} {y p : Nat} (hp : p < P) (hP : P ≤ 4) (hy : y < 4) (h0 : chg o t n P A F y p = false) (h : fNx o t n A F p (p + 4 * y) = A (p + 4 * y)) : chg o t n P A F y (p + 1) = false := by
  rw [Bool.eq_false_iff, Ne, chg_iff] at h0 ⊢
  rintro ⟨i, h1, h2, h3⟩
  by_cases hi : i = p + 4 * y
  · subst hi
    rw [show (p + 4 * y) % 4 = p by omega] at h3
    exact h3 h
  · exact h0 ⟨i, h1, by omega, h3⟩
theorem chg_r {o t n P : Nat} {A F : Nat → Nat} {y : Nat} (hP : P ≤ 4) : chg o t n P A F y P = chg o t n P A F (y + 1) 0 := by
  rw [Bool.eq_iff_iff, chg_iff, chg_iff]
  constructor
  · rintro ⟨i, h1, h2, h3⟩
    exact ⟨i, h1, by omega, h3⟩
  · rintro ⟨i, h1, h2, h3⟩
    exact ⟨i, h1, by omega, h3⟩
theorem cmg_0 (o t n P : Nat) (A C F : Nat → Nat) : cmg o t n P A C F 0 0 = C := by
  funext i
  unfold cmg
  rw [if_neg (by omega)]
theorem cmg_r {o t n P : Nat} {A C F : Nat → Nat} {y : Nat} (hP : P ≤ 4) : cmg o t n P A C F y P = cmg o t n P A C F (y + 1) 0 := by
  funext i
  unfold cmg
  by_cases h : (i / 4 < y ∨ (i / 4 = y ∧ i % 4 < P)) ∧ i % 4 < P
  · rw [if_pos h, if_pos (by omega)]
  · rw [if_neg h, if_neg (by omega)]
theorem cmg_s {o t n P : Nat} {A C F : Nat → Nat} {y p : Nat} (hp : p < P) (hP : P ≤ 4) : updN (cmg o t n P A C F y p) (p + 4 * y) (fNx o t n A F p (p + 4 * y)) = cmg o t n P A C F y (p + 1) := by
  funext i
  unfold updN cmg
  by_cases hi : i = p + 4 * y
  · subst hi
    rw [if_pos rfl, if_pos (by omega), show (p + 4 * y) % 4 = p by omega]
  · rw [if_neg hi]
    by_cases h : (i / 4 < y ∨ (i / 4 = y ∧ i % 4 < p)) ∧ i % 4 < P
    · rw [if_pos h, if_pos (by omega)]
    · rw [if_neg h, if_neg (by omega)]
theorem cmg_lt {o t n P : Nat} {A C F : Nat → Nat} {y p : Nat} (hA : ∀ i, A i < 65536) (hC : ∀ i, C i < 65536) (i : Nat) : cmg o t n P A C F y p i < 65536 := by
  unfold cmg
  split
  · exact fNx_lt hA
  · exact hC i
def adA (o t n P Y : Nat) (A C F : Nat → Nat) : Nat → Nat := if chg o t n P A F Y 0 = true then cpyN (cmg o t n P A C F Y 0) A 16 else A
def bgA (t P : Nat) (A : Nat → Nat) (y p : Nat) : Nat → Nat := fun i => if i < 16 then (if ((i / 4 < y ∨ (i / 4 = y ∧ i % 4 < p)) ∧ i % 4 < P) ∧ bt t (i % 4) = 1 then 65535 else 0) else A i
def bgZ (A : Nat → Nat) (k : Nat) : Nat → Nat := fun i => if i < k then 0 else A i
theorem bgZ_0 (A : Nat → Nat) : bgZ A 0 = A := by funext i; unfold bgZ; rw [if_neg (by omega)]
theorem bgZ_s (A : Nat → Nat) (k : Nat) : updN (bgZ A k) k 0 = bgZ A (k + 1) := by
  funext i
  unfold updN bgZ
  by_cases h : i = k
  · rw [if_pos h, if_pos (by omega)]
  · rw [if_neg h]
    by_cases h2 : i < k
    · rw [if_pos h2, if_pos (by omega)]
    · rw [if_neg h2, if_neg (by omega)]
theorem bgZ_lt {A : Nat → Nat} {k : Nat} (hA : ∀ i, A i < 65536) (i : Nat) : bgZ A k i < 65536 := by
  unfold bgZ
  split
  · omega
  · exact hA i
theorem bgA_0 (t P : Nat) (A : Nat → Nat) : bgZ A 16 = bgA t P A 0 0 := by
  funext i
  unfold bgZ bgA
  split
  · rw [if_neg (by omega)]
  · rfl
theorem bgA_r {t P : Nat} {A : Nat → Nat} {y : Nat} (hP : P ≤ 4) : bgA t P A y P = bgA t P A (y + 1) 0 := by
  funext i
  unfold bgA
  split
  · by_cases h : ((i / 4 < y ∨ (i / 4 = y ∧ i % 4 < P)) ∧ i % 4 < P) ∧ bt t (i % 4) = 1
    · rw [if_pos h, if_pos (by omega)]
    · rw [if_neg h, if_neg (by omega)]
  · rfl
theorem bgA_s {t P : Nat} {A : Nat → Nat} {y p x : Nat} (hp : p < P) (hP : P ≤ 4) (hy : y < 4) (hx : x = if bt t p = 1 then 65535 else 0) : updN (bgA t P A y p) (p + 4 * y) x = bgA t P A y (p + 1) := by
  subst hx
  funext i
  unfold updN bgA
  by_cases hi : i = p + 4 * y
  · subst hi
    by_cases hb : bt t p = 1
    · rw [if_pos rfl, if_pos hb, if_pos (show p + 4 * y < 16 by omega), show (p + 4 * y) % 4 = p by omega, if_pos (by omega)]
    · rw [if_pos rfl, if_neg hb, if_pos (show p + 4 * y < 16 by omega), show (p + 4 * y) % 4 = p by omega, if_neg (by omega)]
  · rw [if_neg hi]
    by_cases h16 : i < 16
    · rw [if_pos h16, if_pos h16]
      by_cases h : ((i / 4 < y ∨ (i / 4 = y ∧ i % 4 < p)) ∧ i % 4 < P) ∧ bt t (i % 4) = 1
      · rw [if_pos h, if_pos (by omega)]
      · rw [if_neg h, if_neg (by omega)]
    · rw [if_neg h16, if_neg h16]
theorem bgA_lt {t P : Nat} {A : Nat → Nat} {y p : Nat} (hA : ∀ i, A i < 65536) (i : Nat) : bgA t P A y p i < 65536 := by
  unfold bgA
  split
  · split <;> omega
  · exact hA i
theorem adA_lt {o t n P Y : Nat} {A C F : Nat → Nat} (hA : ∀ i, A i < 65536) (hC : ∀ i, C i < 65536) (i : Nat) : adA o t n P Y A C F i < 65536 := by
  unfold adA
  split
  · exact cpy_lt (cmg_lt hA hC) hA i
  · exact hA i
/-- rounds until nothing changes, f at most: the families, what comes, the number of the round -/
def satL (o t n P Y : Nat) (F : Nat → Nat) : Nat → (Nat → Nat) → (Nat → Nat) → Nat → (Nat → Nat) × (Nat → Nat) × Nat
  | 0, A, C, r => (A, C, r)
  | f + 1, A, C, r => if chg o t n P A F Y 0 = true then satL o t n P Y F f (adA o t n P Y A C F) (cmg o t n P A C F Y 0) (r + 1) else (A, cmg o t n P A C F Y 0, r)
theorem satL_t {o t n P Y : Nat} {F A C : Nat → Nat} {f r : Nat} (h : chg o t n P A F Y 0 = true) : satL o t n P Y F (f + 1) A C r = satL o t n P Y F f (adA o t n P Y A C F) (cmg o t n P A C F Y 0) (r + 1) := by
  conv => lhs; unfold satL
  rw [if_pos h]
theorem satL_f {o t n P Y : Nat} {F A C : Nat → Nat} {f r : Nat} (h : chg o t n P A F Y 0 = false) : satL o t n P Y F (f + 1) A C r = (A, cmg o t n P A C F Y 0, r) := by
  conv => lhs; unfold satL
  rw [if_neg (by rw [h]; decide)]
theorem sat_go {o t n P Y : Nat} {F A C A1 C1 : Nat → Nat} {i c1 r1 : Nat} (hi : i < 256) (hc : c1 = 1) (hq : (c1 = 1 → satL o t n P Y F (256 - i) A1 C1 r1 = (satL o t n P Y F 256 (bgA t P A Y 0) (bgZ C 16) 0)) ∧ (c1 = 0 → (A1, C1, r1) = (satL o t n P Y F 256 (bgA t P A Y 0) (bgZ C 16) 0))) : (b2n (chg o t n P A1 F Y 0) = 1 → satL o t n P Y F (256 - (i + 1)) (adA o t n P Y A1 C1 F) (cmg o t n P A1 C1 F Y 0) (r1 + b2n (chg o t n P A1 F Y 0)) = (satL o t n P Y F 256 (bgA t P A Y 0) (bgZ C 16) 0)) ∧ (b2n (chg o t n P A1 F Y 0) = 0 → (adA o t n P Y A1 C1 F, cmg o t n P A1 C1 F Y 0, r1 + b2n (chg o t n P A1 F Y 0)) = (satL o t n P Y F 256 (bgA t P A Y 0) (bgZ C 16) 0)) := by
  have h1 := hq.1 hc
  rw [show 256 - i = (256 - (i + 1)) + 1 by omega] at h1
  cases hb : chg o t n P A1 F Y 0
  · rw [satL_f hb] at h1
    refine ⟨fun z => absurd z (by decide), fun _ => ?_⟩
    rw [← h1]
    unfold adA
    rw [if_neg (by rw [hb]; decide)]
    rfl
  · rw [satL_t hb] at h1
    exact ⟨fun _ => h1, fun z => absurd z (by decide)⟩
theorem sat_end {o t n P Y : Nat} {F A C A1 C1 : Nat → Nat} {i c1 r1 : Nat} (hi : i ≤ 256) (hc : c1 < 2) (hq : (c1 = 1 → satL o t n P Y F (256 - i) A1 C1 r1 = (satL o t n P Y F 256 (bgA t P A Y 0) (bgZ C 16) 0)) ∧ (c1 = 0 → (A1, C1, r1) = (satL o t n P Y F 256 (bgA t P A Y 0) (bgZ C 16) 0))) (h : 256 ≤ i ∨ c1 = 0) : (A1, C1, r1) = (satL o t n P Y F 256 (bgA t P A Y 0) (bgZ C 16) 0) := by
  by_cases h0 : c1 = 0
  · exact hq.2 h0
  · have h1 := hq.1 (by omega)
    rw [show 256 - i = 0 by omega] at h1
    exact h1
theorem satL_lt {o t n P Y : Nat} {F : Nat → Nat} : ∀ (f : Nat) (A C : Nat → Nat) (r : Nat), (∀ i, A i < 65536) → (∀ i, C i < 65536) → (∀ i, (satL o t n P Y F f A C r).1 i < 65536) ∧ ∀ i, (satL o t n P Y F f A C r).2.1 i < 65536
  | 0, A, C, r, hA, hC => ⟨hA, hC⟩
  | f + 1, A, C, r, hA, hC => by
    cases hb : chg o t n P A F Y 0
    · rw [satL_f hb]
      exact ⟨hA, cmg_lt hA hC⟩
    · rw [satL_t hb]
      exact satL_lt f _ _ _ (adA_lt hA hC) (cmg_lt hA hC)
/-- the forcing sets asked for: found anew where they are stale -/
def satR (sl o t n P Y : Nat) (F A C : Nat → Nat) (ro : Nat) : (Nat → Nat) × (Nat → Nat) × Nat := if sl = 1 then satL o t n P Y F 256 (bgA t P A Y 0) (bgZ C 16) 0 else (A, C, ro)
theorem satR_lt {sl o t n P Y : Nat} {F A C : Nat → Nat} {ro : Nat} (hA : ∀ i, A i < 65536) (hC : ∀ i, C i < 65536) : (∀ i, (satR sl o t n P Y F A C ro).1 i < 65536) ∧ ∀ i, (satR sl o t n P Y F A C ro).2.1 i < 65536 := by
  unfold satR
  split
  · exact satL_lt 256 _ _ _ (bgA_lt hA) (bgZ_lt hC)
  · exact ⟨hA, hC⟩

theorem mw_X0_commonFamily_iX9 : Cond.initialized RX9 ∈ wsX0_commonFamily := List.mem_of_getElem? (i := 4) rfl
theorem mw_X0_commonFamily_s_X9_bit : Cond.static yX9_bit ∈ wsX0_commonFamily := List.mem_of_getElem? (i := 3) rfl
theorem iw_X0_commonFamily_X0 : ∀ w ∈ wsX00, w ∈ wsX0_commonFamily := fun _ h => List.mem_cons_of_mem _ (List.mem_append_right _ h)
theorem lk_X0_commonFamily_13 : Cond.fieldLink RX0 13 (TX0 1).1 (TX0 1).2.1 (TX0 1).2.2.1 ∈ wsX0_commonFamily := List.mem_of_getElem? (i := 2) rfl
theorem mw_X0_commonFamily_c50 : Cond.constant RX0 50 (65535) ∈ wsX0_commonFamily := List.mem_of_getElem? (i := 1) rfl
set_option maxHeartbeats 4000000 in
set_option maxRecDepth 100000 in
theorem c_X0_commonFamily (a b rb fa fc P Y o t n q S h ro sl : Nat) (F A C : Nat → Nat) (u y : Nat) (hu : u < 16) (hy : y < 4) (hA : ∀ i, A i < 65536) : Ct l yX0_commonFamily wsX0_commonFamily (rmD (1)) D [(cI, .int), (cC, .char), (cJ, .long), (cG, .object "PushdownGameSolver$Game")] [.ref (a), .int (nI u), .int (nI y)] [(a, .inr (0, [.ref (b), .ref (fa), .ref (fc), .int (nI ro), .int (nI sl)])), (b, .inr (1, [.int (nI P), .int (nI Y), .int (nI o), .int (nI t), .int (nI n), .ref (rb), .int (nI q), .long (lN S), .int (nI h)])), (rb, .inl (cI, 16, .inl (fun zz => nI (F zz)))), (fa, .inl (cI, 16, .inl (fun zz => nI (A zz)))), (fc, .inl (cI, 16, .inl (fun zz => nI (C zz))))] (S := Unit) (fun _ => True) (fun _ => some (.int (nI (cmF A u y 4)))) (fun _ => [(a, .inr (0, [.ref (b), .ref (fa), .ref (fc), .int (nI ro), .int (nI sl)])), (b, .inr (1, [.int (nI P), .int (nI Y), .int (nI o), .int (nI t), .int (nI n), .ref (rb), .int (nI q), .long (lN S), .int (nI h)])), (rb, .inl (cI, 16, .inl (fun zz => nI (F zz)))), (fa, .inl (cI, 16, .inl (fun zz => nI (A zz)))), (fc, .inl (cI, 16, .inl (fun zz => nI (C zz))))]) := by
  refine Ct.of (lv := [(0, .ref (a)), (1, .int (nI u)), (2, .int (nI y))]) (by decide) rfl (Nat.le_of_ble_eq_true rfl) rfl ?_
  intro ε hL EE FF
  have Lp_6 : ∀ (nf : Nat), ∀ (v : Nat), 4 - v < nf → (v ≤ 4) → J l (rmD (1)) D ε [(a, .inr (0, [.ref (b), .ref (fa), .ref (fc), .int (nI ro), .int (nI sl)])), (b, .inr (1, [.int (nI P), .int (nI Y), .int (nI o), .int (nI t), .int (nI n), .ref (rb), .int (nI q), .long (lN S), .int (nI h)])), (rb, .inl (cI, 16, .inl (fun zz => nI (F zz)))), (fa, .inl (cI, 16, .inl (fun zz => nI (A zz)))), (fc, .inl (cI, 16, .inl (fun zz => nI (C zz))))] 6 [(4, .int (nI v)), (3, .int (nI (cmF A u y v))), (0, .ref (a)), (1, .int (nI u)), (2, .int (nI y))] [] := by
    intro nf
    induction nf with
    | zero => intro v hm; exact absurd hm (Nat.not_lt_zero _)
    | succ nf ihp_6 =>
      intro v hm6 hv
      refine j_iload EE 0 dX0_commonFamily_6 rfl ?_
      refine j_iconst (v := nI 4) EE dX0_commonFamily_8 (by decide) ?_
      refine j_icmp_ge EE 42 dX0_commonFamily_9 (by decide) (fun c9 => ?_) (fun c9 => ?_)
      · skip
        have n9 : 4 ≤ v := (nI_leI (a := 4) (b := v) (by omega) (by omega)).mp c9
        refine j_iload_n EE 1 dX0_commonFamily_42 rfl rfl ?_
        exact j_iret EE FF dX0_commonFamily_43 () trivial (by rw [show v = 4 by omega]) rfl
      · skip
        have n9 : ¬ 4 ≤ v := fun hq => c9 ((nI_leI (a := 4) (b := v) (by omega) (by omega)).mpr hq)
        refine j_iload_n EE 3 dX0_commonFamily_12 rfl rfl ?_
        refine j_iload EE 0 dX0_commonFamily_13 rfl ?_
        refine j_SN2 (n9 := 5) EE (c_X9_bit u v (by omega) (by omega)) gX0_commonFamily_X9_bit_n47 hd_X9_bit (by decide) mw_X0_commonFamily_iX9 mw_X0_commonFamily_s_X9_bit rfl ⟨rfl, rfl⟩ ⟨by decide, by decide⟩ rfl [] rfl [0, 1, 2, 3, 4] [(a, .inr (0, [.ref (b), .ref (fa), .ref (fc), .int (nI ro), .int (nI sl)])), (b, .inr (1, [.int (nI P), .int (nI Y), .int (nI o), .int (nI t), .int (nI n), .ref (rb), .int (nI q), .long (lN S), .int (nI h)])), (rb, .inl (cI, 16, .inl (fun zz => nI (F zz)))), (fa, .inl (cI, 16, .inl (fun zz => nI (A zz)))), (fc, .inl (cI, 16, .inl (fun zz => nI (C zz))))] (fun _ => rfl) [(a, .inr (0, [.ref (b), .ref (fa), .ref (fc), .int (nI ro), .int (nI sl)])), (b, .inr (1, [.int (nI P), .int (nI Y), .int (nI o), .int (nI t), .int (nI n), .ref (rb), .int (nI q), .long (lN S), .int (nI h)])), (rb, .inl (cI, 16, .inl (fun zz => nI (F zz)))), (fa, .inl (cI, 16, .inl (fun zz => nI (A zz)))), (fc, .inl (cI, 16, .inl (fun zz => nI (C zz))))] [a, b, rb, fa, fc] rfl rfl rfl rfl rfl (by decide) (by decide) rfl (Nat.le_of_ble_eq_true rfl) dX0_commonFamily_15 (fun u_15 h_15 => ?_) rfl
        show J l _ D ε _ _ _ (.int (nI (bt u v)) :: _)
        refine j_iconst (v := nI 1) EE dX0_commonFamily_18 (by decide) ?_
        refine j_icmp_ne EE 36 dX0_commonFamily_19 (by decide) (fun c19 => ?_) (fun c19 => ?_)
        · skip
          have n19 : (bt u v) ≠ 1 := fun hq => c19 ((nI_eq (a := (bt u v)) (b := 1) (by have := bt_lt u v; omega) (by have := bt_lt u v; omega)).mpr hq)
          refine j_iinc (v := nI (v + 1)) EE 0 [(4, .int (nI (v + 1))), (3, _), (0, _), (1, _), (2, _)] dX0_commonFamily_36 rfl (nI_1 v) (Nat.lt_of_lt_of_eq (by decide) hL.symm) rfl ?_
          refine j_goto EE 6 dX0_commonFamily_39 (by decide) ?_
          first | rw [show cmF A u y v &&& A (v + 4 * y) = cmF A u y (v + 1) by conv => rhs; unfold cmF; rw [if_pos n19]] | rw [show cmF A u y v = cmF A u y (v + 1) by conv => rhs; unfold cmF; rw [if_neg n19]]
          exact ihp_6 (v + 1) (by omega) (by omega)
        · skip
          have n19 : (bt u v) = 1 := (nI_eq (a := (bt u v)) (b := 1) (by have := bt_lt u v; omega) (by have := bt_lt u v; omega)).mp c19
          refine j_iload_n EE 1 dX0_commonFamily_22 rfl rfl ?_
          refine j_aload_n EE 2 dX0_commonFamily_23 rfl rfl ?_
          refine j_get (T := TX0) EE iw_X0_commonFamily_X0 0 rfl rfl 1 (by decide) lk_X0_commonFamily_13 rfl dX0_commonFamily_24 ?_
          refine j_iload EE 0 dX0_commonFamily_27 rfl ?_
          refine j_iload_n EE 4 dX0_commonFamily_29 rfl rfl ?_
          refine j_S2 (n9 := 5) EE (c_X4_of v y (by omega) (by omega)) gX0_commonFamily_X4_of hd_X4_of rfl ⟨rfl, rfl⟩ ⟨by decide, by decide⟩ rfl [] rfl [0, 1, 2, 3, 4] [(a, .inr (0, [.ref (b), .ref (fa), .ref (fc), .int (nI ro), .int (nI sl)])), (b, .inr (1, [.int (nI P), .int (nI Y), .int (nI o), .int (nI t), .int (nI n), .ref (rb), .int (nI q), .long (lN S), .int (nI h)])), (rb, .inl (cI, 16, .inl (fun zz => nI (F zz)))), (fa, .inl (cI, 16, .inl (fun zz => nI (A zz)))), (fc, .inl (cI, 16, .inl (fun zz => nI (C zz))))] (fun _ => rfl) [(a, .inr (0, [.ref (b), .ref (fa), .ref (fc), .int (nI ro), .int (nI sl)])), (b, .inr (1, [.int (nI P), .int (nI Y), .int (nI o), .int (nI t), .int (nI n), .ref (rb), .int (nI q), .long (lN S), .int (nI h)])), (rb, .inl (cI, 16, .inl (fun zz => nI (F zz)))), (fa, .inl (cI, 16, .inl (fun zz => nI (A zz)))), (fc, .inl (cI, 16, .inl (fun zz => nI (C zz))))] [a, b, rb, fa, fc] rfl rfl rfl rfl rfl (by decide) (by decide) rfl (Nat.le_of_ble_eq_true rfl) dX0_commonFamily_30 (fun u_30 h_30 => ?_) rfl
          show J l _ D ε _ _ _ (.int (nI (v + 4 * y)) :: _)
          refine j_iald EE 3 0 rfl rfl (vp_in_nI (n := v + 4 * y) (by omega) (by decide)) dX0_commonFamily_33 ?_
          refine j_topE (congrArg (fun zz => nI (A zz)) (nI_clamp (n := v + 4 * y) (by omega))) ?_
          refine j_topE (y := nI (A (v + 4 * y))) rfl ?_
          refine j_iand EE dX0_commonFamily_34 ?_
          refine j_topE (nI_and (cmF A u y v) (A (v + 4 * y))) ?_
          refine j_istore_n EE [(3, _), (4, _), (0, _), (1, _), (2, _)] dX0_commonFamily_35 rfl (Nat.lt_of_lt_of_eq (by decide) hL.symm) rfl ?_
          refine j_iinc (v := nI (v + 1)) EE 1 [(4, .int (nI (v + 1))), (3, _), (0, _), (1, _), (2, _)] dX0_commonFamily_36 rfl (nI_1 v) (Nat.lt_of_lt_of_eq (by decide) hL.symm) rfl ?_
          refine j_goto EE 6 dX0_commonFamily_39 (by decide) ?_
          first | rw [show cmF A u y v &&& A (v + 4 * y) = cmF A u y (v + 1) by conv => rhs; unfold cmF; rw [if_pos n19]] | rw [show cmF A u y v = cmF A u y (v + 1) by conv => rhs; unfold cmF; rw [if_neg n19]]
          exact ihp_6 (v + 1) (by omega) (by omega)
  refine j_ldc EE mw_X0_commonFamily_c50 dX0_commonFamily_0 ?_
  refine j_topE (y := nI 65535) (by decide) ?_
  refine j_istore_n EE [(3, _), (0, _), (1, _), (2, _)] dX0_commonFamily_2 rfl (Nat.lt_of_lt_of_eq (by decide) hL.symm) rfl ?_
  refine j_iconst (v := nI 0) EE dX0_commonFamily_3 (by decide) ?_
  refine j_istore EE [(4, _), (3, _), (0, _), (1, _), (2, _)] dX0_commonFamily_4 (Nat.lt_of_lt_of_eq (by decide) hL.symm) rfl ?_
  exact Lp_6 _ 0 (Nat.lt_succ_self _) (by omega)

theorem mw_X0_yieldedBy_iX9 : Cond.initialized RX9 ∈ wsX0_yieldedBy := List.mem_of_getElem? (i := 11) rfl
theorem mw_X0_yieldedBy_s_X9_bit : Cond.static yX9_bit ∈ wsX0_yieldedBy := List.mem_of_getElem? (i := 10) rfl
theorem hd_X0_commonFamily : yX0_commonFamily.cls ≠ "java/lang/invoke/MethodHandle" ∧ yX0_commonFamily.cls ≠ "java/lang/invoke/VarHandle" ∧ (parseMethodDescriptor yX0_commonFamily.desc).map (fun d => d.parameters.length) = some 2 := by decide +kernel
theorem hd_X5_next : yX5_next.cls ≠ "java/lang/invoke/MethodHandle" ∧ yX5_next.cls ≠ "java/lang/invoke/VarHandle" ∧ (parseMethodDescriptor yX5_next.desc).map (fun d => d.parameters.length) = some 1 := by decide +kernel
theorem iw_X0_yieldedBy_X0 : ∀ w ∈ wsX00, w ∈ wsX0_yieldedBy := fun _ h => List.mem_cons_of_mem _ (List.mem_append_left _ (List.mem_append_right _ h))
theorem lk_X0_yieldedBy_24 : Cond.fieldLink RX0 24 (TX0 0).1 (TX0 0).2.1 (TX0 0).2.2.1 ∈ wsX0_yieldedBy := List.mem_of_getElem? (i := 1) rfl
theorem iw_X0_yieldedBy_X1 : ∀ w ∈ wsX10, w ∈ wsX0_yieldedBy := fun _ h => List.mem_cons_of_mem _ (List.mem_append_right _ h)
theorem lk_X0_yieldedBy_44 : Cond.fieldLink RX0 44 (TX1 3).1 (TX1 3).2.1 (TX1 3).2.2.1 ∈ wsX0_yieldedBy := List.mem_of_getElem? (i := 2) rfl
theorem lk_X0_yieldedBy_13 : Cond.fieldLink RX0 13 (TX0 1).1 (TX0 1).2.1 (TX0 1).2.2.1 ∈ wsX0_yieldedBy := List.mem_of_getElem? (i := 5) rfl
theorem mw_X0_yieldedBy_gs92 : Cond.fieldLink RX0 92 "PushdownGameSolver$ForcingSets" "SETS_WITH_STATE" "[I" ∈ wsX0_yieldedBy := List.mem_of_getElem? (i := 4) rfl
theorem mw_X0_yieldedBy_c50 : Cond.constant RX0 50 (65535) ∈ wsX0_yieldedBy := List.mem_of_getElem? (i := 3) rfl
set_option maxHeartbeats 4000000 in
set_option maxRecDepth 100000 in
theorem c_X0_yieldedBy (a b rb fa fc P Y o t n q S h ro sl : Nat) (F A C : Nat → Nat) (k : Nat) (hk : k < 1024) (ht : t < 16) (hA : ∀ i, A i < 65536) : Ct l yX0_yieldedBy wsX0_yieldedBy (rmD (2)) D [(cI, .int), (cC, .char), (cJ, .long), (cG, .object "PushdownGameSolver$Game")] [.ref (a), .int (nI k)] [(a, .inr (0, [.ref (b), .ref (fa), .ref (fc), .int (nI ro), .int (nI sl)])), (b, .inr (1, [.int (nI P), .int (nI Y), .int (nI o), .int (nI t), .int (nI n), .ref (rb), .int (nI q), .long (lN S), .int (nI h)])), (rb, .inl (cI, 16, .inl (fun zz => nI (F zz)))), (fa, .inl (cI, 16, .inl (fun zz => nI (A zz)))), (fc, .inl (cI, 16, .inl (fun zz => nI (C zz))))] (S := Unit) (fun _ => True) (fun _ => some (.int (nI (yB t A k)))) (fun _ => [(a, .inr (0, [.ref (b), .ref (fa), .ref (fc), .int (nI ro), .int (nI sl)])), (b, .inr (1, [.int (nI P), .int (nI Y), .int (nI o), .int (nI t), .int (nI n), .ref (rb), .int (nI q), .long (lN S), .int (nI h)])), (rb, .inl (cI, 16, .inl (fun zz => nI (F zz)))), (fa, .inl (cI, 16, .inl (fun zz => nI (A zz)))), (fc, .inl (cI, 16, .inl (fun zz => nI (C zz))))]) := by
  refine Ct.of (lv := [(0, .ref (a)), (1, .int (nI k))]) (by decide) rfl (Nat.le_of_ble_eq_true rfl) rfl ?_
  intro ε hL EE FF
  have Lp_67 : ∀ (nf : Nat), ∀ (s : Nat), 16 - s < nf → (s ≤ 16) → (¬ bt t (k / 16 % 4) = 1) → (¬ k / 64 % 4 = 0) → (¬ k / 256 % 4 = 0) → J l (rmD (2)) D ε [(a, .inr (0, [.ref (b), .ref (fa), .ref (fc), .int (nI ro), .int (nI sl)])), (b, .inr (1, [.int (nI P), .int (nI Y), .int (nI o), .int (nI t), .int (nI n), .ref (rb), .int (nI q), .long (lN S), .int (nI h)])), (rb, .inl (cI, 16, .inl (fun zz => nI (F zz)))), (fa, .inl (cI, 16, .inl (fun zz => nI (A zz)))), (fc, .inl (cI, 16, .inl (fun zz => nI (C zz))))] 67 [(5, .int (nI s)), (4, .int (nI (yL A (A (k / 16 % 4 + 4 * (k / 64 % 4 - 1))) (k / 256 % 4 - 1) s))), (3, .int (nI (A (k / 16 % 4 + 4 * (k / 64 % 4 - 1))))), (2, .int (nI (k / 16 % 4))), (0, .ref (a)), (1, .int (nI k))] [] := by
    intro nf
    induction nf with
    | zero => intro s hm; exact absurd hm (Nat.not_lt_zero _)
    | succ nf ihp_67 =>
      intro s hm67 hs n17 n28 n56
      refine j_iload EE 0 dX0_yieldedBy_67 rfl ?_
      refine j_bipush (v := nI 16) EE dX0_yieldedBy_69 (by decide) ?_
      refine j_icmp_ge EE 105 dX0_yieldedBy_71 (by decide) (fun c71 => ?_) (fun c71 => ?_)
      · skip
        have n71 : 16 ≤ s := (nI_leI (a := 16) (b := s) (by omega) (by omega)).mp c71
        refine j_iload EE 1 dX0_yieldedBy_105 rfl ?_
        exact j_iret EE FF dX0_yieldedBy_107 () trivial (by unfold yB; rw [if_neg n17, if_neg n28, if_neg n56, show s = 16 by omega]) rfl
      · skip
        have n71 : ¬ 16 ≤ s := fun hq => c71 ((nI_leI (a := 16) (b := s) (by omega) (by omega)).mpr hq)
        refine j_iload_n EE 2 dX0_yieldedBy_74 rfl rfl ?_
        refine j_iload EE 0 dX0_yieldedBy_75 rfl ?_
        refine j_SN2 (n9 := 5) EE (c_X9_bit (A (k / 16 % 4 + 4 * (k / 64 % 4 - 1))) s (by have := hA (k / 16 % 4 + 4 * (k / 64 % 4 - 1)); omega) (by have := hA (k / 16 % 4 + 4 * (k / 64 % 4 - 1)); omega)) gX0_yieldedBy_X9_bit_n47 hd_X9_bit (by decide) mw_X0_yieldedBy_iX9 mw_X0_yieldedBy_s_X9_bit rfl ⟨rfl, rfl⟩ ⟨by decide, by decide⟩ rfl [] rfl [0, 1, 2, 3, 4] [(a, .inr (0, [.ref (b), .ref (fa), .ref (fc), .int (nI ro), .int (nI sl)])), (b, .inr (1, [.int (nI P), .int (nI Y), .int (nI o), .int (nI t), .int (nI n), .ref (rb), .int (nI q), .long (lN S), .int (nI h)])), (rb, .inl (cI, 16, .inl (fun zz => nI (F zz)))), (fa, .inl (cI, 16, .inl (fun zz => nI (A zz)))), (fc, .inl (cI, 16, .inl (fun zz => nI (C zz))))] (fun _ => rfl) [(a, .inr (0, [.ref (b), .ref (fa), .ref (fc), .int (nI ro), .int (nI sl)])), (b, .inr (1, [.int (nI P), .int (nI Y), .int (nI o), .int (nI t), .int (nI n), .ref (rb), .int (nI q), .long (lN S), .int (nI h)])), (rb, .inl (cI, 16, .inl (fun zz => nI (F zz)))), (fa, .inl (cI, 16, .inl (fun zz => nI (A zz)))), (fc, .inl (cI, 16, .inl (fun zz => nI (C zz))))] [a, b, rb, fa, fc] rfl rfl rfl rfl rfl (by decide) (by decide) rfl (Nat.le_of_ble_eq_true rfl) dX0_yieldedBy_77 (fun u_77 h_77 => ?_) rfl
        show J l _ D ε _ _ _ (.int (nI (bt (A (k / 16 % 4 + 4 * (k / 64 % 4 - 1))) s)) :: _)
        refine j_iconst (v := nI 1) EE dX0_yieldedBy_80 (by decide) ?_
        refine j_icmp_ne EE 99 dX0_yieldedBy_81 (by decide) (fun c81 => ?_) (fun c81 => ?_)
        · skip
          have n81 : (bt (A (k / 16 % 4 + 4 * (k / 64 % 4 - 1))) s) ≠ 1 := fun hq => c81 ((nI_eq (a := (bt (A (k / 16 % 4 + 4 * (k / 64 % 4 - 1))) s)) (b := 1) (by have := bt_lt (A (k / 16 % 4 + 4 * (k / 64 % 4 - 1))) s; omega) (by have := bt_lt (A (k / 16 % 4 + 4 * (k / 64 % 4 - 1))) s; omega)).mpr hq)
          refine j_iinc (v := nI (s + 1)) EE 0 [(5, .int (nI (s + 1))), (4, _), (3, _), (2, _), (0, _), (1, _)] dX0_yieldedBy_99 rfl (nI_1 s) (Nat.lt_of_lt_of_eq (by decide) hL.symm) rfl ?_
          refine j_goto EE 67 dX0_yieldedBy_102 (by decide) ?_
          first | rw [show yL A (A (k / 16 % 4 + 4 * (k / 64 % 4 - 1))) (k / 256 % 4 - 1) s ||| cmF A s (k / 256 % 4 - 1) 4 = yL A (A (k / 16 % 4 + 4 * (k / 64 % 4 - 1))) (k / 256 % 4 - 1) (s + 1) by conv => rhs; unfold yL; rw [if_pos n81]] | rw [show yL A (A (k / 16 % 4 + 4 * (k / 64 % 4 - 1))) (k / 256 % 4 - 1) s = yL A (A (k / 16 % 4 + 4 * (k / 64 % 4 - 1))) (k / 256 % 4 - 1) (s + 1) by conv => rhs; unfold yL; rw [if_neg n81]]
          exact ihp_67 (s + 1) (by omega) (by omega) n17 n28 n56
        · skip
          have n81 : (bt (A (k / 16 % 4 + 4 * (k / 64 % 4 - 1))) s) = 1 := (nI_eq (a := (bt (A (k / 16 % 4 + 4 * (k / 64 % 4 - 1))) s)) (b := 1) (by have := bt_lt (A (k / 16 % 4 + 4 * (k / 64 % 4 - 1))) s; omega) (by have := bt_lt (A (k / 16 % 4 + 4 * (k / 64 % 4 - 1))) s; omega)).mp c81
          refine j_iload EE 1 dX0_yieldedBy_84 rfl ?_
          refine j_aload_n EE 4 dX0_yieldedBy_86 rfl rfl ?_
          refine j_iload EE 0 dX0_yieldedBy_87 rfl ?_
          refine j_iload_n EE 5 dX0_yieldedBy_89 rfl rfl ?_
          refine j_S2 (n9 := 5) EE (c_X5_lower k (by omega)) gX0_yieldedBy_X5_lower hd_X5_lower rfl ⟨rfl, rfl⟩ ⟨by decide, by decide⟩ rfl [] rfl [0, 1, 2, 3, 4] [(a, .inr (0, [.ref (b), .ref (fa), .ref (fc), .int (nI ro), .int (nI sl)])), (b, .inr (1, [.int (nI P), .int (nI Y), .int (nI o), .int (nI t), .int (nI n), .ref (rb), .int (nI q), .long (lN S), .int (nI h)])), (rb, .inl (cI, 16, .inl (fun zz => nI (F zz)))), (fa, .inl (cI, 16, .inl (fun zz => nI (A zz)))), (fc, .inl (cI, 16, .inl (fun zz => nI (C zz))))] (fun _ => rfl) [(a, .inr (0, [.ref (b), .ref (fa), .ref (fc), .int (nI ro), .int (nI sl)])), (b, .inr (1, [.int (nI P), .int (nI Y), .int (nI o), .int (nI t), .int (nI n), .ref (rb), .int (nI q), .long (lN S), .int (nI h)])), (rb, .inl (cI, 16, .inl (fun zz => nI (F zz)))), (fa, .inl (cI, 16, .inl (fun zz => nI (A zz)))), (fc, .inl (cI, 16, .inl (fun zz => nI (C zz))))] [a, b, rb, fa, fc] rfl rfl rfl rfl rfl (by decide) (by decide) rfl (Nat.le_of_ble_eq_true rfl) dX0_yieldedBy_90 (fun u_90 h_90 => ?_) rfl
          show J l _ D ε _ _ _ (.int (nI (k / 256 % 4) - nI 1) :: _)
          refine j_topE (y := nI (k / 256 % 4 - 1)) (pk_sub (by omega)) ?_
          show J l _ D ε _ _ _ (.int (nI (k / 256 % 4 - 1)) :: _)
          refine j_V2 (n9 := 5) EE (c_X0_commonFamily a b rb fa fc P Y o t n q S h ro sl F A C s (k / 256 % 4 - 1) (by omega) (by omega) hA) gX0_yieldedBy_X0_commonFamily ⟨rfl, hd_X0_commonFamily⟩ rfl ⟨rfl, rfl⟩ ⟨by decide, by decide⟩ rfl [0, 1, 2, 3, 4] rfl [] [(a, .inr (0, [.ref (b), .ref (fa), .ref (fc), .int (nI ro), .int (nI sl)])), (b, .inr (1, [.int (nI P), .int (nI Y), .int (nI o), .int (nI t), .int (nI n), .ref (rb), .int (nI q), .long (lN S), .int (nI h)])), (rb, .inl (cI, 16, .inl (fun zz => nI (F zz)))), (fa, .inl (cI, 16, .inl (fun zz => nI (A zz)))), (fc, .inl (cI, 16, .inl (fun zz => nI (C zz))))] (fun _ => rfl) [] [a, b, rb, fa, fc] rfl rfl rfl rfl rfl (by decide) (by decide) 0 rfl rfl rfl (Nat.le_of_ble_eq_true rfl) dX0_yieldedBy_93 (fun u_93 h_93 => ?_) rfl
          show J l _ D ε _ _ _ (.int (nI (cmF A s (k / 256 % 4 - 1) 4)) :: _)
          refine j_ior EE dX0_yieldedBy_96 ?_
          refine j_topE (nI_or (yL A (A (k / 16 % 4 + 4 * (k / 64 % 4 - 1))) (k / 256 % 4 - 1) s) (cmF A s (k / 256 % 4 - 1) 4)) ?_
          refine j_istore EE [(4, _), (5, _), (3, _), (2, _), (0, _), (1, _)] dX0_yieldedBy_97 (Nat.lt_of_lt_of_eq (by decide) hL.symm) rfl ?_
          refine j_iinc (v := nI (s + 1)) EE 1 [(5, .int (nI (s + 1))), (4, _), (3, _), (2, _), (0, _), (1, _)] dX0_yieldedBy_99 rfl (nI_1 s) (Nat.lt_of_lt_of_eq (by decide) hL.symm) rfl ?_
          refine j_goto EE 67 dX0_yieldedBy_102 (by decide) ?_
          first | rw [show yL A (A (k / 16 % 4 + 4 * (k / 64 % 4 - 1))) (k / 256 % 4 - 1) s ||| cmF A s (k / 256 % 4 - 1) 4 = yL A (A (k / 16 % 4 + 4 * (k / 64 % 4 - 1))) (k / 256 % 4 - 1) (s + 1) by conv => rhs; unfold yL; rw [if_pos n81]] | rw [show yL A (A (k / 16 % 4 + 4 * (k / 64 % 4 - 1))) (k / 256 % 4 - 1) s = yL A (A (k / 16 % 4 + 4 * (k / 64 % 4 - 1))) (k / 256 % 4 - 1) (s + 1) by conv => rhs; unfold yL; rw [if_neg n81]]
          exact ihp_67 (s + 1) (by omega) (by omega) n17 n28 n56
  refine j_iload_n EE 1 dX0_yieldedBy_0 rfl rfl ?_
  refine j_S2 (n9 := 5) EE (c_X5_next k (by omega)) gX0_yieldedBy_X5_next hd_X5_next rfl ⟨rfl, rfl⟩ ⟨by decide, by decide⟩ rfl [] rfl [0, 1, 2, 3, 4] [(a, .inr (0, [.ref (b), .ref (fa), .ref (fc), .int (nI ro), .int (nI sl)])), (b, .inr (1, [.int (nI P), .int (nI Y), .int (nI o), .int (nI t), .int (nI n), .ref (rb), .int (nI q), .long (lN S), .int (nI h)])), (rb, .inl (cI, 16, .inl (fun zz => nI (F zz)))), (fa, .inl (cI, 16, .inl (fun zz => nI (A zz)))), (fc, .inl (cI, 16, .inl (fun zz => nI (C zz))))] (fun _ => rfl) [(a, .inr (0, [.ref (b), .ref (fa), .ref (fc), .int (nI ro), .int (nI sl)])), (b, .inr (1, [.int (nI P), .int (nI Y), .int (nI o), .int (nI t), .int (nI n), .ref (rb), .int (nI q), .long (lN S), .int (nI h)])), (rb, .inl (cI, 16, .inl (fun zz => nI (F zz)))), (fa, .inl (cI, 16, .inl (fun zz => nI (A zz)))), (fc, .inl (cI, 16, .inl (fun zz => nI (C zz))))] [a, b, rb, fa, fc] rfl rfl rfl rfl rfl (by decide) (by decide) rfl (Nat.le_of_ble_eq_true rfl) dX0_yieldedBy_1 (fun u_1 h_1 => ?_) rfl
  show J l _ D ε _ _ _ (.int (nI (k / 16 % 4)) :: _)
  refine j_istore_n EE [(2, _), (0, _), (1, _)] dX0_yieldedBy_4 rfl (Nat.lt_of_lt_of_eq (by decide) hL.symm) rfl ?_
  refine j_aload_n EE 1 dX0_yieldedBy_5 rfl rfl ?_
  refine j_get (T := TX0) EE iw_X0_yieldedBy_X0 0 rfl rfl 0 (by decide) lk_X0_yieldedBy_24 rfl dX0_yieldedBy_6 ?_
  refine j_get (T := TX1) EE iw_X0_yieldedBy_X1 1 rfl rfl 3 (by decide) lk_X0_yieldedBy_44 rfl dX0_yieldedBy_9 ?_
  refine j_iload_n EE 0 dX0_yieldedBy_12 rfl rfl ?_
  refine j_SN2 (n9 := 5) EE (c_X9_bit t (k / 16 % 4) (by omega) (by omega)) gX0_yieldedBy_X9_bit_n47 hd_X9_bit (by decide) mw_X0_yieldedBy_iX9 mw_X0_yieldedBy_s_X9_bit rfl ⟨rfl, rfl⟩ ⟨by decide, by decide⟩ rfl [] rfl [0, 1, 2, 3, 4] [(a, .inr (0, [.ref (b), .ref (fa), .ref (fc), .int (nI ro), .int (nI sl)])), (b, .inr (1, [.int (nI P), .int (nI Y), .int (nI o), .int (nI t), .int (nI n), .ref (rb), .int (nI q), .long (lN S), .int (nI h)])), (rb, .inl (cI, 16, .inl (fun zz => nI (F zz)))), (fa, .inl (cI, 16, .inl (fun zz => nI (A zz)))), (fc, .inl (cI, 16, .inl (fun zz => nI (C zz))))] (fun _ => rfl) [(a, .inr (0, [.ref (b), .ref (fa), .ref (fc), .int (nI ro), .int (nI sl)])), (b, .inr (1, [.int (nI P), .int (nI Y), .int (nI o), .int (nI t), .int (nI n), .ref (rb), .int (nI q), .long (lN S), .int (nI h)])), (rb, .inl (cI, 16, .inl (fun zz => nI (F zz)))), (fa, .inl (cI, 16, .inl (fun zz => nI (A zz)))), (fc, .inl (cI, 16, .inl (fun zz => nI (C zz))))] [a, b, rb, fa, fc] rfl rfl rfl rfl rfl (by decide) (by decide) rfl (Nat.le_of_ble_eq_true rfl) dX0_yieldedBy_13 (fun u_13 h_13 => ?_) rfl
  show J l _ D ε _ _ _ (.int (nI (bt t (k / 16 % 4))) :: _)
  refine j_iconst (v := nI 1) EE dX0_yieldedBy_16 (by decide) ?_
  refine j_icmp_ne EE 23 dX0_yieldedBy_17 (by decide) (fun c17 => ?_) (fun c17 => ?_)
  · skip
    have n17 : (bt t (k / 16 % 4)) ≠ 1 := fun hq => c17 ((nI_eq (a := (bt t (k / 16 % 4))) (b := 1) (by have := bt_lt t (k / 16 % 4); omega) (by have := bt_lt t (k / 16 % 4); omega)).mpr hq)
    refine j_iload_n EE 2 dX0_yieldedBy_23 rfl rfl ?_
    refine j_S2 (n9 := 5) EE (c_X5_upper k (by omega)) gX0_yieldedBy_X5_upper hd_X5_upper rfl ⟨rfl, rfl⟩ ⟨by decide, by decide⟩ rfl [] rfl [0, 1, 2, 3, 4] [(a, .inr (0, [.ref (b), .ref (fa), .ref (fc), .int (nI ro), .int (nI sl)])), (b, .inr (1, [.int (nI P), .int (nI Y), .int (nI o), .int (nI t), .int (nI n), .ref (rb), .int (nI q), .long (lN S), .int (nI h)])), (rb, .inl (cI, 16, .inl (fun zz => nI (F zz)))), (fa, .inl (cI, 16, .inl (fun zz => nI (A zz)))), (fc, .inl (cI, 16, .inl (fun zz => nI (C zz))))] (fun _ => rfl) [(a, .inr (0, [.ref (b), .ref (fa), .ref (fc), .int (nI ro), .int (nI sl)])), (b, .inr (1, [.int (nI P), .int (nI Y), .int (nI o), .int (nI t), .int (nI n), .ref (rb), .int (nI q), .long (lN S), .int (nI h)])), (rb, .inl (cI, 16, .inl (fun zz => nI (F zz)))), (fa, .inl (cI, 16, .inl (fun zz => nI (A zz)))), (fc, .inl (cI, 16, .inl (fun zz => nI (C zz))))] [a, b, rb, fa, fc] rfl rfl rfl rfl rfl (by decide) (by decide) rfl (Nat.le_of_ble_eq_true rfl) dX0_yieldedBy_24 (fun u_24 h_24 => ?_) rfl
    show J l _ D ε _ _ _ (.int (nI (k / 64 % 4) - nI 1) :: _)
    refine j_iconst (v := (-1)) EE dX0_yieldedBy_27 (by decide) ?_
    refine j_icmp_ne EE 37 dX0_yieldedBy_28 (by decide) (fun c28 => ?_) (fun c28 => ?_)
    · skip
      have n28 : ¬ k / 64 % 4 = 0 := fun hq => c28 ((b_m1 _ (by omega)).mpr hq)
      refine j_aload_n EE 1 dX0_yieldedBy_37 rfl rfl ?_
      refine j_get (T := TX0) EE iw_X0_yieldedBy_X0 0 rfl rfl 1 (by decide) lk_X0_yieldedBy_13 rfl dX0_yieldedBy_38 ?_
      refine j_iload_n EE 0 dX0_yieldedBy_41 rfl rfl ?_
      refine j_iload_n EE 2 dX0_yieldedBy_42 rfl rfl ?_
      refine j_S2 (n9 := 5) EE (c_X5_upper k (by omega)) gX0_yieldedBy_X5_upper hd_X5_upper rfl ⟨rfl, rfl⟩ ⟨by decide, by decide⟩ rfl [] rfl [0, 1, 2, 3, 4] [(a, .inr (0, [.ref (b), .ref (fa), .ref (fc), .int (nI ro), .int (nI sl)])), (b, .inr (1, [.int (nI P), .int (nI Y), .int (nI o), .int (nI t), .int (nI n), .ref (rb), .int (nI q), .long (lN S), .int (nI h)])), (rb, .inl (cI, 16, .inl (fun zz => nI (F zz)))), (fa, .inl (cI, 16, .inl (fun zz => nI (A zz)))), (fc, .inl (cI, 16, .inl (fun zz => nI (C zz))))] (fun _ => rfl) [(a, .inr (0, [.ref (b), .ref (fa), .ref (fc), .int (nI ro), .int (nI sl)])), (b, .inr (1, [.int (nI P), .int (nI Y), .int (nI o), .int (nI t), .int (nI n), .ref (rb), .int (nI q), .long (lN S), .int (nI h)])), (rb, .inl (cI, 16, .inl (fun zz => nI (F zz)))), (fa, .inl (cI, 16, .inl (fun zz => nI (A zz)))), (fc, .inl (cI, 16, .inl (fun zz => nI (C zz))))] [a, b, rb, fa, fc] rfl rfl rfl rfl rfl (by decide) (by decide) rfl (Nat.le_of_ble_eq_true rfl) dX0_yieldedBy_43 (fun u_43 h_43 => ?_) rfl
      show J l _ D ε _ _ _ (.int (nI (k / 64 % 4) - nI 1) :: _)
      refine j_topE (y := nI (k / 64 % 4 - 1)) (pk_sub (by omega)) ?_
      show J l _ D ε _ _ _ (.int (nI (k / 64 % 4 - 1)) :: _)
      refine j_S2 (n9 := 5) EE (c_X4_of (k / 16 % 4) (k / 64 % 4 - 1) (by omega) (by omega)) gX0_yieldedBy_X4_of hd_X4_of rfl ⟨rfl, rfl⟩ ⟨by decide, by decide⟩ rfl [] rfl [0, 1, 2, 3, 4] [(a, .inr (0, [.ref (b), .ref (fa), .ref (fc), .int (nI ro), .int (nI sl)])), (b, .inr (1, [.int (nI P), .int (nI Y), .int (nI o), .int (nI t), .int (nI n), .ref (rb), .int (nI q), .long (lN S), .int (nI h)])), (rb, .inl (cI, 16, .inl (fun zz => nI (F zz)))), (fa, .inl (cI, 16, .inl (fun zz => nI (A zz)))), (fc, .inl (cI, 16, .inl (fun zz => nI (C zz))))] (fun _ => rfl) [(a, .inr (0, [.ref (b), .ref (fa), .ref (fc), .int (nI ro), .int (nI sl)])), (b, .inr (1, [.int (nI P), .int (nI Y), .int (nI o), .int (nI t), .int (nI n), .ref (rb), .int (nI q), .long (lN S), .int (nI h)])), (rb, .inl (cI, 16, .inl (fun zz => nI (F zz)))), (fa, .inl (cI, 16, .inl (fun zz => nI (A zz)))), (fc, .inl (cI, 16, .inl (fun zz => nI (C zz))))] [a, b, rb, fa, fc] rfl rfl rfl rfl rfl (by decide) (by decide) rfl (Nat.le_of_ble_eq_true rfl) dX0_yieldedBy_46 (fun u_46 h_46 => ?_) rfl
      show J l _ D ε _ _ _ (.int (nI ((k / 16 % 4) + 4 * (k / 64 % 4 - 1))) :: _)
      refine j_iald EE 3 0 rfl rfl (vp_in_nI (n := (k / 16 % 4) + 4 * (k / 64 % 4 - 1)) (by omega) (by decide)) dX0_yieldedBy_49 ?_
      refine j_topE (congrArg (fun zz => nI (A zz)) (nI_clamp (n := (k / 16 % 4) + 4 * (k / 64 % 4 - 1)) (by omega))) ?_
      refine j_topE (y := nI (A ((k / 16 % 4) + 4 * (k / 64 % 4 - 1)))) rfl ?_
      refine j_istore_n EE [(3, _), (2, _), (0, _), (1, _)] dX0_yieldedBy_50 rfl (Nat.lt_of_lt_of_eq (by decide) hL.symm) rfl ?_
      refine j_iload_n EE 3 dX0_yieldedBy_51 rfl rfl ?_
      refine j_S2 (n9 := 5) EE (c_X5_lower k (by omega)) gX0_yieldedBy_X5_lower hd_X5_lower rfl ⟨rfl, rfl⟩ ⟨by decide, by decide⟩ rfl [] rfl [0, 1, 2, 3, 4] [(a, .inr (0, [.ref (b), .ref (fa), .ref (fc), .int (nI ro), .int (nI sl)])), (b, .inr (1, [.int (nI P), .int (nI Y), .int (nI o), .int (nI t), .int (nI n), .ref (rb), .int (nI q), .long (lN S), .int (nI h)])), (rb, .inl (cI, 16, .inl (fun zz => nI (F zz)))), (fa, .inl (cI, 16, .inl (fun zz => nI (A zz)))), (fc, .inl (cI, 16, .inl (fun zz => nI (C zz))))] (fun _ => rfl) [(a, .inr (0, [.ref (b), .ref (fa), .ref (fc), .int (nI ro), .int (nI sl)])), (b, .inr (1, [.int (nI P), .int (nI Y), .int (nI o), .int (nI t), .int (nI n), .ref (rb), .int (nI q), .long (lN S), .int (nI h)])), (rb, .inl (cI, 16, .inl (fun zz => nI (F zz)))), (fa, .inl (cI, 16, .inl (fun zz => nI (A zz)))), (fc, .inl (cI, 16, .inl (fun zz => nI (C zz))))] [a, b, rb, fa, fc] rfl rfl rfl rfl rfl (by decide) (by decide) rfl (Nat.le_of_ble_eq_true rfl) dX0_yieldedBy_52 (fun u_52 h_52 => ?_) rfl
      show J l _ D ε _ _ _ (.int (nI (k / 256 % 4) - nI 1) :: _)
      refine j_iconst (v := (-1)) EE dX0_yieldedBy_55 (by decide) ?_
      refine j_icmp_ne EE 61 dX0_yieldedBy_56 (by decide) (fun c56 => ?_) (fun c56 => ?_)
      · skip
        have n56 : ¬ k / 256 % 4 = 0 := fun hq => c56 ((b_m1 _ (by omega)).mpr hq)
        refine j_iconst (v := nI 0) EE dX0_yieldedBy_61 (by decide) ?_
        refine j_istore EE [(4, _), (3, _), (2, _), (0, _), (1, _)] dX0_yieldedBy_62 (Nat.lt_of_lt_of_eq (by decide) hL.symm) rfl ?_
        refine j_iconst (v := nI 0) EE dX0_yieldedBy_64 (by decide) ?_
        refine j_istore EE [(5, _), (4, _), (3, _), (2, _), (0, _), (1, _)] dX0_yieldedBy_65 (Nat.lt_of_lt_of_eq (by decide) hL.symm) rfl ?_
        exact Lp_67 _ 0 (Nat.lt_succ_self _) (by omega) n17 n28 n56
      · skip
        have n56 : k / 256 % 4 = 0 := (b_m1 _ (by omega)).mp c56
        refine j_iload_n EE 0 dX0_yieldedBy_59 rfl rfl ?_
        exact j_iret EE FF dX0_yieldedBy_60 () trivial (by unfold yB; rw [if_neg n17, if_neg n28, if_pos n56]) rfl
    · skip
      have n28 : k / 64 % 4 = 0 := (b_m1 _ (by omega)).mp c28
      refine j_sws EE mw_X0_yieldedBy_gs92 (k / 16 % 4) (by omega) dX0_yieldedBy_31 dX0_yieldedBy_34 rfl 0 rfl dX0_yieldedBy_35 ?_
      exact j_iret EE FF dX0_yieldedBy_36 () trivial (by unfold yB; rw [if_neg n17, if_pos n28]) rfl
  · skip
    have n17 : (bt t (k / 16 % 4)) = 1 := (nI_eq (a := (bt t (k / 16 % 4))) (b := 1) (by have := bt_lt t (k / 16 % 4); omega) (by have := bt_lt t (k / 16 % 4); omega)).mp c17
    refine j_ldc EE mw_X0_yieldedBy_c50 dX0_yieldedBy_20 ?_
    refine j_topE (y := nI 65535) (by decide) ?_
    exact j_iret EE FF dX0_yieldedBy_22 () trivial (by unfold yB; rw [if_pos n17]) rfl

theorem iw_X0_familyInNextRound_X0 : ∀ w ∈ wsX00, w ∈ wsX0_familyInNextRound := fun _ h => List.mem_cons_of_mem _ (List.mem_append_left _ (List.mem_append_right _ h))
theorem lk_X0_familyInNextRound_24 : Cond.fieldLink RX0 24 (TX0 0).1 (TX0 0).2.1 (TX0 0).2.2.1 ∈ wsX0_familyInNextRound := List.mem_of_getElem? (i := 1) rfl
theorem iw_X0_familyInNextRound_X1 : ∀ w ∈ wsX10, w ∈ wsX0_familyInNextRound := fun _ h => List.mem_cons_of_mem _ (List.mem_append_right _ h)
theorem lk_X0_familyInNextRound_67 : Cond.fieldLink RX0 67 (TX1 4).1 (TX1 4).2.1 (TX1 4).2.2.1 ∈ wsX0_familyInNextRound := List.mem_of_getElem? (i := 4) rfl
theorem hd_X1_owner : yX1_owner.cls ≠ "java/lang/invoke/MethodHandle" ∧ yX1_owner.cls ≠ "java/lang/invoke/VarHandle" ∧ (parseMethodDescriptor yX1_owner.desc).map (fun d => d.parameters.length) = some 1 := by decide +kernel
theorem lk_X0_familyInNextRound_70 : Cond.fieldLink RX0 70 (TX1 5).1 (TX1 5).2.1 (TX1 5).2.2.1 ∈ wsX0_familyInNextRound := List.mem_of_getElem? (i := 5) rfl
theorem hd_X0_yieldedBy : yX0_yieldedBy.cls ≠ "java/lang/invoke/MethodHandle" ∧ yX0_yieldedBy.cls ≠ "java/lang/invoke/VarHandle" ∧ (parseMethodDescriptor yX0_yieldedBy.desc).map (fun d => d.parameters.length) = some 1 := by decide +kernel
theorem lk_X0_familyInNextRound_44 : Cond.fieldLink RX0 44 (TX1 3).1 (TX1 3).2.1 (TX1 3).2.2.1 ∈ wsX0_familyInNextRound := List.mem_of_getElem? (i := 2) rfl
theorem mw_X0_familyInNextRound_iX9 : Cond.initialized RX9 ∈ wsX0_familyInNextRound := List.mem_of_getElem? (i := 7) rfl
theorem mw_X0_familyInNextRound_s_X9_bit : Cond.static yX9_bit ∈ wsX0_familyInNextRound := List.mem_of_getElem? (i := 6) rfl
theorem mw_X0_familyInNextRound_c50 : Cond.constant RX0 50 (65535) ∈ wsX0_familyInNextRound := List.mem_of_getElem? (i := 3) rfl
set_option maxHeartbeats 4000000 in
set_option maxRecDepth 100000 in
theorem c_X0_familyInNextRound (a b rb fa fc P Y o t n q S h ro sl : Nat) (F A C : Nat → Nat) (p pr : Nat) (hp : p < 4) (hpr : pr < 16) (ht : t < 16) (ho : o < 16) (hn : n ≤ 16) (hF : ∀ i, F i < 1024) (hA : ∀ i, A i < 65536) : Ct l yX0_familyInNextRound wsX0_familyInNextRound (rmD (3)) D [(cI, .int), (cC, .char), (cJ, .long), (cG, .object "PushdownGameSolver$Game")] [.ref (a), .int (nI p), .int (nI pr)] [(a, .inr (0, [.ref (b), .ref (fa), .ref (fc), .int (nI ro), .int (nI sl)])), (b, .inr (1, [.int (nI P), .int (nI Y), .int (nI o), .int (nI t), .int (nI n), .ref (rb), .int (nI q), .long (lN S), .int (nI h)])), (rb, .inl (cI, 16, .inl (fun zz => nI (F zz)))), (fa, .inl (cI, 16, .inl (fun zz => nI (A zz)))), (fc, .inl (cI, 16, .inl (fun zz => nI (C zz))))] (S := Unit) (fun _ => True) (fun _ => some (.int (nI (fNx o t n A F p pr)))) (fun _ => [(a, .inr (0, [.ref (b), .ref (fa), .ref (fc), .int (nI ro), .int (nI sl)])), (b, .inr (1, [.int (nI P), .int (nI Y), .int (nI o), .int (nI t), .int (nI n), .ref (rb), .int (nI q), .long (lN S), .int (nI h)])), (rb, .inl (cI, 16, .inl (fun zz => nI (F zz)))), (fa, .inl (cI, 16, .inl (fun zz => nI (A zz)))), (fc, .inl (cI, 16, .inl (fun zz => nI (C zz))))]) := by
  refine Ct.of (lv := [(0, .ref (a)), (1, .int (nI p)), (2, .int (nI pr))]) (by decide) rfl (Nat.le_of_ble_eq_true rfl) rfl ?_
  intro ε hL EE FF
  have Lp_30 : ∀ (nf : Nat), ∀ (i : Nat), 17 - i < nf → (i ≤ n) → (¬ bt t p = 1) → J l (rmD (3)) D ε [(a, .inr (0, [.ref (b), .ref (fa), .ref (fc), .int (nI ro), .int (nI sl)])), (b, .inr (1, [.int (nI P), .int (nI Y), .int (nI o), .int (nI t), .int (nI n), .ref (rb), .int (nI q), .long (lN S), .int (nI h)])), (rb, .inl (cI, 16, .inl (fun zz => nI (F zz)))), (fa, .inl (cI, 16, .inl (fun zz => nI (A zz)))), (fc, .inl (cI, 16, .inl (fun zz => nI (C zz))))] 30 [(6, .int (nI i)), (5, .int (nI (fAll t A F pr i))), (4, .int (nI (fAny t A F pr i))), (3, .int (nI (fHas F pr i))), (0, .ref (a)), (1, .int (nI p)), (2, .int (nI pr))] [] := by
    intro nf
    induction nf with
    | zero => intro i hm; exact absurd hm (Nat.not_lt_zero _)
    | succ nf ihp_30 =>
      intro i hm30 hi n12
      refine j_iload EE 0 dX0_familyInNextRound_30 rfl ?_
      refine j_aload_n EE 4 dX0_familyInNextRound_32 rfl rfl ?_
      refine j_get (T := TX0) EE iw_X0_familyInNextRound_X0 0 rfl rfl 0 (by decide) lk_X0_familyInNextRound_24 rfl dX0_familyInNextRound_33 ?_
      refine j_get (T := TX1) EE iw_X0_familyInNextRound_X1 1 rfl rfl 4 (by decide) lk_X0_familyInNextRound_67 rfl dX0_familyInNextRound_36 ?_
      refine j_icmp_ge EE 93 dX0_familyInNextRound_39 (by decide) (fun c39 => ?_) (fun c39 => ?_)
      · skip
        have n39 : n ≤ i := (nI_leI (a := n) (b := i) (by omega) (by omega)).mp c39
        refine j_aload_n EE 4 dX0_familyInNextRound_93 rfl rfl ?_
        refine j_get (T := TX0) EE iw_X0_familyInNextRound_X0 0 rfl rfl 0 (by decide) lk_X0_familyInNextRound_24 rfl dX0_familyInNextRound_94 ?_
        refine j_iload_n EE 5 dX0_familyInNextRound_97 rfl rfl ?_
        refine j_V2 (n9 := 5) EE (c_X1_owner b rb P Y o t n q S h F p (by omega) (by omega)) gX0_familyInNextRound_X1_owner ⟨rfl, hd_X1_owner⟩ rfl ⟨rfl, rfl⟩ ⟨by decide, by decide⟩ rfl [1, 2] rfl [0, 3, 4] [(a, .inr (0, [.ref (b), .ref (fa), .ref (fc), .int (nI ro), .int (nI sl)])), (b, .inr (1, [.int (nI P), .int (nI Y), .int (nI o), .int (nI t), .int (nI n), .ref (rb), .int (nI q), .long (lN S), .int (nI h)])), (rb, .inl (cI, 16, .inl (fun zz => nI (F zz)))), (fa, .inl (cI, 16, .inl (fun zz => nI (A zz)))), (fc, .inl (cI, 16, .inl (fun zz => nI (C zz))))] (fun _ => rfl) [(a, .inr (0, [.ref (b), .ref (fa), .ref (fc), .int (nI ro), .int (nI sl)])), (fa, .inl (cI, 16, .inl (fun zz => nI (A zz)))), (fc, .inl (cI, 16, .inl (fun zz => nI (C zz))))] [a, b, rb, fa, fc] rfl rfl rfl rfl rfl (by decide) (by decide) 0 rfl rfl rfl (Nat.le_of_ble_eq_true rfl) dX0_familyInNextRound_98 (fun u_98 h_98 => ?_) rfl
        show J l _ D ε _ _ _ (.int (nI (bt o p)) :: _)
        refine j_iconst (v := nI 1) EE dX0_familyInNextRound_101 (by decide) ?_
        refine j_icmp_ne EE 116 dX0_familyInNextRound_102 (by decide) (fun c102 => ?_) (fun c102 => ?_)
        · skip
          have n102 : (bt o p) ≠ 1 := fun hq => c102 ((nI_eq (a := (bt o p)) (b := 1) (by have := bt_lt o p; omega) (by have := bt_lt o p; omega)).mpr hq)
          refine j_iload EE 2 dX0_familyInNextRound_116 rfl ?_
          exact j_iret EE FF dX0_familyInNextRound_118 () trivial (by unfold fNx; rw [if_neg n12, if_neg n102, show n = i by omega]) rfl
        · skip
          have n102 : (bt o p) = 1 := (nI_eq (a := (bt o p)) (b := 1) (by have := bt_lt o p; omega) (by have := bt_lt o p; omega)).mp c102
          refine j_iload_n EE 3 dX0_familyInNextRound_105 rfl rfl ?_
          refine j_if_eq EE 114 dX0_familyInNextRound_106 (by decide) (fun c106 => ?_) (fun c106 => ?_)
          · skip
            have n106 : (fHas F pr i) = 0 := (nI_eq (a := (fHas F pr i)) (b := 0) (by have := fHas_lt F pr i; omega) (by have := fHas_lt F pr i; omega)).mp c106
            refine j_iconst (v := nI 0) EE dX0_familyInNextRound_114 (by decide) ?_
            exact j_iret EE FF dX0_familyInNextRound_115 () trivial (by unfold fNx; rw [if_neg n12, if_pos n102, show n = i by omega]; first | rw [if_neg n106] | rw [if_pos n106]) rfl
          · skip
            have n106 : (fHas F pr i) ≠ 0 := fun hq => c106 ((nI_eq (a := (fHas F pr i)) (b := 0) (by have := fHas_lt F pr i; omega) (by have := fHas_lt F pr i; omega)).mpr hq)
            refine j_iload EE 1 dX0_familyInNextRound_109 rfl ?_
            refine j_goto EE 115 dX0_familyInNextRound_111 (by decide) ?_
            exact j_iret EE FF dX0_familyInNextRound_115 () trivial (by unfold fNx; rw [if_neg n12, if_pos n102, show n = i by omega]; first | rw [if_neg n106] | rw [if_pos n106]) rfl
      · skip
        have n39 : ¬ n ≤ i := fun hq => c39 ((nI_leI (a := n) (b := i) (by omega) (by omega)).mpr hq)
        refine j_aload_n EE 4 dX0_familyInNextRound_42 rfl rfl ?_
        refine j_get (T := TX0) EE iw_X0_familyInNextRound_X0 0 rfl rfl 0 (by decide) lk_X0_familyInNextRound_24 rfl dX0_familyInNextRound_43 ?_
        refine j_get (T := TX1) EE iw_X0_familyInNextRound_X1 1 rfl rfl 5 (by decide) lk_X0_familyInNextRound_70 rfl dX0_familyInNextRound_46 ?_
        refine j_iload EE 0 dX0_familyInNextRound_49 rfl ?_
        refine j_iald EE 2 0 rfl rfl (vp_in_nI (n := i) (by omega) (by decide)) dX0_familyInNextRound_51 ?_
        refine j_topE (congrArg (fun zz => nI (F zz)) (nI_clamp (n := i) (by omega))) ?_
        refine j_topE (y := nI (F i)) rfl ?_
        refine j_istore EE [(7, _), (6, _), (5, _), (4, _), (3, _), (0, _), (1, _), (2, _)] dX0_familyInNextRound_52 (Nat.lt_of_lt_of_eq (by decide) hL.symm) rfl ?_
        refine j_iload EE 0 dX0_familyInNextRound_54 rfl ?_
        refine j_iload_n EE 7 dX0_familyInNextRound_56 rfl rfl ?_
        refine j_S2 (n9 := 5) EE (c_X5_fitsPair (F i) pr (by have := hF i; omega) (by have := hF i; omega)) gX0_familyInNextRound_X5_fitsPair hd_X5_fitsPair rfl ⟨rfl, rfl⟩ ⟨by decide, by decide⟩ rfl [] rfl [0, 1, 2, 3, 4] [(a, .inr (0, [.ref (b), .ref (fa), .ref (fc), .int (nI ro), .int (nI sl)])), (b, .inr (1, [.int (nI P), .int (nI Y), .int (nI o), .int (nI t), .int (nI n), .ref (rb), .int (nI q), .long (lN S), .int (nI h)])), (rb, .inl (cI, 16, .inl (fun zz => nI (F zz)))), (fa, .inl (cI, 16, .inl (fun zz => nI (A zz)))), (fc, .inl (cI, 16, .inl (fun zz => nI (C zz))))] (fun _ => rfl) [(a, .inr (0, [.ref (b), .ref (fa), .ref (fc), .int (nI ro), .int (nI sl)])), (b, .inr (1, [.int (nI P), .int (nI Y), .int (nI o), .int (nI t), .int (nI n), .ref (rb), .int (nI q), .long (lN S), .int (nI h)])), (rb, .inl (cI, 16, .inl (fun zz => nI (F zz)))), (fa, .inl (cI, 16, .inl (fun zz => nI (A zz)))), (fc, .inl (cI, 16, .inl (fun zz => nI (C zz))))] [a, b, rb, fa, fc] rfl rfl rfl rfl rfl (by decide) (by decide) rfl (Nat.le_of_ble_eq_true rfl) dX0_familyInNextRound_57 (fun u_57 h_57 => ?_) rfl
        show J l _ D ε _ _ _ (.int (nI (b2n (decide ((F i) % 16 = pr)))) :: _)
        refine j_if_eq EE 87 dX0_familyInNextRound_60 (by decide) (fun c60 => ?_) (fun c60 => ?_)
        · skip
          have n60 : (b2n (decide ((F i) % 16 = pr))) = 0 := (nI_eq (a := (b2n (decide ((F i) % 16 = pr)))) (b := 0) (by have := b2n_lt (decide ((F i) % 16 = pr)); omega) (by have := b2n_lt (decide ((F i) % 16 = pr)); omega)).mp c60
          refine j_iinc (v := nI (i + 1)) EE 1 [(6, .int (nI (i + 1))), (7, _), (5, _), (4, _), (3, _), (0, _), (1, _), (2, _)] dX0_familyInNextRound_87 rfl (nI_1 i) (Nat.lt_of_lt_of_eq (by decide) hL.symm) rfl ?_
          refine j_goto EE 30 dX0_familyInNextRound_90 (by decide) ?_
          refine j_lv [0, 2, 3, 4, 5, 6, 7] rfl ?_
          first | rw [show fAny t A F pr i ||| yB t A (F i) = fAny t A F pr (i + 1) by conv => rhs; unfold fAny; rw [if_pos (b2d_1 n60)], show fAll t A F pr i &&& yB t A (F i) = fAll t A F pr (i + 1) by conv => rhs; unfold fAll; rw [if_pos (b2d_1 n60)], show nI 1 = nI (fHas F pr (i + 1)) by conv => rhs; unfold fHas; rw [if_pos (b2d_1 n60)]] | rw [show fAny t A F pr i = fAny t A F pr (i + 1) by conv => rhs; unfold fAny; rw [if_neg (b2d_0 n60)], show fAll t A F pr i = fAll t A F pr (i + 1) by conv => rhs; unfold fAll; rw [if_neg (b2d_0 n60)], show fHas F pr i = fHas F pr (i + 1) by conv => rhs; unfold fHas; rw [if_neg (b2d_0 n60)]]
          exact ihp_30 (i + 1) (by omega) (by omega) n12
        · skip
          have n60 : (b2n (decide ((F i) % 16 = pr))) ≠ 0 := fun hq => c60 ((nI_eq (a := (b2n (decide ((F i) % 16 = pr)))) (b := 0) (by have := b2n_lt (decide ((F i) % 16 = pr)); omega) (by have := b2n_lt (decide ((F i) % 16 = pr)); omega)).mpr hq)
          refine j_aload_n EE 5 dX0_familyInNextRound_63 rfl rfl ?_
          refine j_iload EE 0 dX0_familyInNextRound_64 rfl ?_
          refine j_V2 (n9 := 5) EE (c_X0_yieldedBy a b rb fa fc P Y o t n q S h ro sl F A C (F i) (by have := hF i; omega) (by omega) hA) gX0_familyInNextRound_X0_yieldedBy ⟨rfl, hd_X0_yieldedBy⟩ rfl ⟨rfl, rfl⟩ ⟨by decide, by decide⟩ rfl [0, 1, 2, 3, 4] rfl [] [(a, .inr (0, [.ref (b), .ref (fa), .ref (fc), .int (nI ro), .int (nI sl)])), (b, .inr (1, [.int (nI P), .int (nI Y), .int (nI o), .int (nI t), .int (nI n), .ref (rb), .int (nI q), .long (lN S), .int (nI h)])), (rb, .inl (cI, 16, .inl (fun zz => nI (F zz)))), (fa, .inl (cI, 16, .inl (fun zz => nI (A zz)))), (fc, .inl (cI, 16, .inl (fun zz => nI (C zz))))] (fun _ => rfl) [] [a, b, rb, fa, fc] rfl rfl rfl rfl rfl (by decide) (by decide) 0 rfl rfl rfl (Nat.le_of_ble_eq_true rfl) dX0_familyInNextRound_66 (fun u_66 h_66 => ?_) rfl
          show J l _ D ε _ _ _ (.int (nI (yB t A (F i))) :: _)
          refine j_istore EE [(8, _), (7, _), (6, _), (5, _), (4, _), (3, _), (0, _), (1, _), (2, _)] dX0_familyInNextRound_69 (Nat.lt_of_lt_of_eq (by decide) hL.symm) rfl ?_
          refine j_iconst (v := nI 1) EE dX0_familyInNextRound_71 (by decide) ?_
          refine j_istore_n EE [(3, _), (8, _), (7, _), (6, _), (5, _), (4, _), (0, _), (1, _), (2, _)] dX0_familyInNextRound_72 rfl (Nat.lt_of_lt_of_eq (by decide) hL.symm) rfl ?_
          refine j_iload EE 5 dX0_familyInNextRound_73 rfl ?_
          refine j_iload EE 1 dX0_familyInNextRound_75 rfl ?_
          refine j_ior EE dX0_familyInNextRound_77 ?_
          refine j_topE (nI_or (fAny t A F pr i) (yB t A (F i))) ?_
          refine j_istore EE [(4, _), (3, _), (8, _), (7, _), (6, _), (5, _), (0, _), (1, _), (2, _)] dX0_familyInNextRound_78 (Nat.lt_of_lt_of_eq (by decide) hL.symm) rfl ?_
          refine j_iload EE 5 dX0_familyInNextRound_80 rfl ?_
          refine j_iload EE 2 dX0_familyInNextRound_82 rfl ?_
          refine j_iand EE dX0_familyInNextRound_84 ?_
          refine j_topE (nI_and (fAll t A F pr i) (yB t A (F i))) ?_
          refine j_istore EE [(5, _), (4, _), (3, _), (8, _), (7, _), (6, _), (0, _), (1, _), (2, _)] dX0_familyInNextRound_85 (Nat.lt_of_lt_of_eq (by decide) hL.symm) rfl ?_
          refine j_iinc (v := nI (i + 1)) EE 5 [(6, .int (nI (i + 1))), (5, _), (4, _), (3, _), (8, _), (7, _), (0, _), (1, _), (2, _)] dX0_familyInNextRound_87 rfl (nI_1 i) (Nat.lt_of_lt_of_eq (by decide) hL.symm) rfl ?_
          refine j_goto EE 30 dX0_familyInNextRound_90 (by decide) ?_
          refine j_lv [0, 1, 2, 3, 6, 7, 8] rfl ?_
          first | rw [show fAny t A F pr i ||| yB t A (F i) = fAny t A F pr (i + 1) by conv => rhs; unfold fAny; rw [if_pos (b2d_1 n60)], show fAll t A F pr i &&& yB t A (F i) = fAll t A F pr (i + 1) by conv => rhs; unfold fAll; rw [if_pos (b2d_1 n60)], show nI 1 = nI (fHas F pr (i + 1)) by conv => rhs; unfold fHas; rw [if_pos (b2d_1 n60)]] | rw [show fAny t A F pr i = fAny t A F pr (i + 1) by conv => rhs; unfold fAny; rw [if_neg (b2d_0 n60)], show fAll t A F pr i = fAll t A F pr (i + 1) by conv => rhs; unfold fAll; rw [if_neg (b2d_0 n60)], show fHas F pr i = fHas F pr (i + 1) by conv => rhs; unfold fHas; rw [if_neg (b2d_0 n60)]]
          exact ihp_30 (i + 1) (by omega) (by omega) n12
  refine j_aload_n EE 0 dX0_familyInNextRound_0 rfl rfl ?_
  refine j_get (T := TX0) EE iw_X0_familyInNextRound_X0 0 rfl rfl 0 (by decide) lk_X0_familyInNextRound_24 rfl dX0_familyInNextRound_1 ?_
  refine j_get (T := TX1) EE iw_X0_familyInNextRound_X1 1 rfl rfl 3 (by decide) lk_X0_familyInNextRound_44 rfl dX0_familyInNextRound_4 ?_
  refine j_iload_n EE 1 dX0_familyInNextRound_7 rfl rfl ?_
  refine j_SN2 (n9 := 5) EE (c_X9_bit t p (by omega) (by omega)) gX0_familyInNextRound_X9_bit_n47 hd_X9_bit (by decide) mw_X0_familyInNextRound_iX9 mw_X0_familyInNextRound_s_X9_bit rfl ⟨rfl, rfl⟩ ⟨by decide, by decide⟩ rfl [] rfl [0, 1, 2, 3, 4] [(a, .inr (0, [.ref (b), .ref (fa), .ref (fc), .int (nI ro), .int (nI sl)])), (b, .inr (1, [.int (nI P), .int (nI Y), .int (nI o), .int (nI t), .int (nI n), .ref (rb), .int (nI q), .long (lN S), .int (nI h)])), (rb, .inl (cI, 16, .inl (fun zz => nI (F zz)))), (fa, .inl (cI, 16, .inl (fun zz => nI (A zz)))), (fc, .inl (cI, 16, .inl (fun zz => nI (C zz))))] (fun _ => rfl) [(a, .inr (0, [.ref (b), .ref (fa), .ref (fc), .int (nI ro), .int (nI sl)])), (b, .inr (1, [.int (nI P), .int (nI Y), .int (nI o), .int (nI t), .int (nI n), .ref (rb), .int (nI q), .long (lN S), .int (nI h)])), (rb, .inl (cI, 16, .inl (fun zz => nI (F zz)))), (fa, .inl (cI, 16, .inl (fun zz => nI (A zz)))), (fc, .inl (cI, 16, .inl (fun zz => nI (C zz))))] [a, b, rb, fa, fc] rfl rfl rfl rfl rfl (by decide) (by decide) rfl (Nat.le_of_ble_eq_true rfl) dX0_familyInNextRound_8 (fun u_8 h_8 => ?_) rfl
  show J l _ D ε _ _ _ (.int (nI (bt t p)) :: _)
  refine j_iconst (v := nI 1) EE dX0_familyInNextRound_11 (by decide) ?_
  refine j_icmp_ne EE 18 dX0_familyInNextRound_12 (by decide) (fun c12 => ?_) (fun c12 => ?_)
  · skip
    have n12 : (bt t p) ≠ 1 := fun hq => c12 ((nI_eq (a := (bt t p)) (b := 1) (by have := bt_lt t p; omega) (by have := bt_lt t p; omega)).mpr hq)
    refine j_iconst (v := nI 0) EE dX0_familyInNextRound_18 (by decide) ?_
    refine j_istore_n EE [(3, _), (0, _), (1, _), (2, _)] dX0_familyInNextRound_19 rfl (Nat.lt_of_lt_of_eq (by decide) hL.symm) rfl ?_
    refine j_iconst (v := nI 0) EE dX0_familyInNextRound_20 (by decide) ?_
    refine j_istore EE [(4, _), (3, _), (0, _), (1, _), (2, _)] dX0_familyInNextRound_21 (Nat.lt_of_lt_of_eq (by decide) hL.symm) rfl ?_
    refine j_ldc EE mw_X0_familyInNextRound_c50 dX0_familyInNextRound_23 ?_
    refine j_topE (y := nI 65535) (by decide) ?_
    refine j_istore EE [(5, _), (4, _), (3, _), (0, _), (1, _), (2, _)] dX0_familyInNextRound_25 (Nat.lt_of_lt_of_eq (by decide) hL.symm) rfl ?_
    refine j_iconst (v := nI 0) EE dX0_familyInNextRound_27 (by decide) ?_
    refine j_istore EE [(6, _), (5, _), (4, _), (3, _), (0, _), (1, _), (2, _)] dX0_familyInNextRound_28 (Nat.lt_of_lt_of_eq (by decide) hL.symm) rfl ?_
    exact Lp_30 _ 0 (Nat.lt_succ_self _) (by omega) n12
  · skip
    have n12 : (bt t p) = 1 := (nI_eq (a := (bt t p)) (b := 1) (by have := bt_lt t p; omega) (by have := bt_lt t p; omega)).mp c12
    refine j_ldc EE mw_X0_familyInNextRound_c50 dX0_familyInNextRound_15 ?_
    refine j_topE (y := nI 65535) (by decide) ?_
    exact j_iret EE FF dX0_familyInNextRound_17 () trivial (by unfold fNx; rw [if_pos n12]) rfl

theorem iw_X0_acceptedAbove_X0 : ∀ w ∈ wsX00, w ∈ wsX0_acceptedAbove := fun _ h => List.mem_cons_of_mem _ (List.mem_append_left _ (List.mem_append_right _ h))
theorem lk_X0_acceptedAbove_24 : Cond.fieldLink RX0 24 (TX0 0).1 (TX0 0).2.1 (TX0 0).2.2.1 ∈ wsX0_acceptedAbove := List.mem_of_getElem? (i := 1) rfl
theorem iw_X0_acceptedAbove_X1 : ∀ w ∈ wsX10, w ∈ wsX0_acceptedAbove := fun _ h => List.mem_cons_of_mem _ (List.mem_append_right _ h)
theorem lk_X0_acceptedAbove_37 : Cond.fieldLink RX0 37 (TX1 0).1 (TX1 0).2.1 (TX1 0).2.2.1 ∈ wsX0_acceptedAbove := List.mem_of_getElem? (i := 3) rfl
theorem lk_X0_acceptedAbove_13 : Cond.fieldLink RX0 13 (TX0 1).1 (TX0 1).2.1 (TX0 1).2.2.1 ∈ wsX0_acceptedAbove := List.mem_of_getElem? (i := 4) rfl
theorem mw_X0_acceptedAbove_iX9 : Cond.initialized RX9 ∈ wsX0_acceptedAbove := List.mem_of_getElem? (i := 10) rfl
theorem mw_X0_acceptedAbove_s_X9_bit : Cond.static yX9_bit ∈ wsX0_acceptedAbove := List.mem_of_getElem? (i := 9) rfl
theorem mw_X0_acceptedAbove_s_X9_withBit : Cond.static yX9_withBit ∈ wsX0_acceptedAbove := List.mem_of_getElem? (i := 12) rfl
theorem lk_X0_acceptedAbove_44 : Cond.fieldLink RX0 44 (TX1 3).1 (TX1 3).2.1 (TX1 3).2.2.1 ∈ wsX0_acceptedAbove := List.mem_of_getElem? (i := 2) rfl
set_option maxHeartbeats 4000000 in
set_option maxRecDepth 100000 in
theorem c_X0_acceptedAbove (a b rb fa fc P Y o t n q S h ro sl : Nat) (F A C : Nat → Nat) (u y : Nat) (hu : u < 16) (hy : y < 4) (ht : t < 16) (hP : P ≤ 4) (hA : ∀ i, A i < 65536) : Ct l yX0_acceptedAbove wsX0_acceptedAbove (rmD (1)) D [(cI, .int), (cC, .char), (cJ, .long), (cG, .object "PushdownGameSolver$Game")] [.ref (a), .int (nI u), .int (nI y)] [(a, .inr (0, [.ref (b), .ref (fa), .ref (fc), .int (nI ro), .int (nI sl)])), (b, .inr (1, [.int (nI P), .int (nI Y), .int (nI o), .int (nI t), .int (nI n), .ref (rb), .int (nI q), .long (lN S), .int (nI h)])), (rb, .inl (cI, 16, .inl (fun zz => nI (F zz)))), (fa, .inl (cI, 16, .inl (fun zz => nI (A zz)))), (fc, .inl (cI, 16, .inl (fun zz => nI (C zz))))] (S := Unit) (fun _ => True) (fun _ => some (.int (nI (aaL t A u y P)))) (fun _ => [(a, .inr (0, [.ref (b), .ref (fa), .ref (fc), .int (nI ro), .int (nI sl)])), (b, .inr (1, [.int (nI P), .int (nI Y), .int (nI o), .int (nI t), .int (nI n), .ref (rb), .int (nI q), .long (lN S), .int (nI h)])), (rb, .inl (cI, 16, .inl (fun zz => nI (F zz)))), (fa, .inl (cI, 16, .inl (fun zz => nI (A zz)))), (fc, .inl (cI, 16, .inl (fun zz => nI (C zz))))]) := by
  refine Ct.of (lv := [(0, .ref (a)), (1, .int (nI u)), (2, .int (nI y))]) (by decide) rfl (Nat.le_of_ble_eq_true rfl) rfl ?_
  intro ε hL EE FF
  have Lp_11 : ∀ (nf : Nat), ∀ (p : Nat), 4 - p < nf → (p ≤ P) → J l (rmD (1)) D ε [(a, .inr (0, [.ref (b), .ref (fa), .ref (fc), .int (nI ro), .int (nI sl)])), (b, .inr (1, [.int (nI P), .int (nI Y), .int (nI o), .int (nI t), .int (nI n), .ref (rb), .int (nI q), .long (lN S), .int (nI h)])), (rb, .inl (cI, 16, .inl (fun zz => nI (F zz)))), (fa, .inl (cI, 16, .inl (fun zz => nI (A zz)))), (fc, .inl (cI, 16, .inl (fun zz => nI (C zz))))] 11 [(4, .int (nI p)), (3, .int (nI (aaL t A u y p))), (0, .ref (a)), (1, .int (nI u)), (2, .int (nI y))] [] := by
    intro nf
    induction nf with
    | zero => intro p hm; exact absurd hm (Nat.not_lt_zero _)
    | succ nf ihp_11 =>
      intro p hm11 hp
      have hal := aaL_lt (A := A) (u := u) (y := y) ht p (by omega)
      refine j_iload EE 0 dX0_acceptedAbove_11 rfl ?_
      refine j_aload_n EE 2 dX0_acceptedAbove_13 rfl rfl ?_
      refine j_get (T := TX0) EE iw_X0_acceptedAbove_X0 0 rfl rfl 0 (by decide) lk_X0_acceptedAbove_24 rfl dX0_acceptedAbove_14 ?_
      refine j_get (T := TX1) EE iw_X0_acceptedAbove_X1 1 rfl rfl 0 (by decide) lk_X0_acceptedAbove_37 rfl dX0_acceptedAbove_17 ?_
      refine j_icmp_ge EE 56 dX0_acceptedAbove_20 (by decide) (fun c20 => ?_) (fun c20 => ?_)
      · skip
        have n20 : P ≤ p := (nI_leI (a := P) (b := p) (by omega) (by omega)).mp c20
        refine j_iload_n EE 1 dX0_acceptedAbove_56 rfl rfl ?_
        exact j_iret EE FF dX0_acceptedAbove_57 () trivial (by rw [show P = p by omega]) rfl
      · skip
        have n20 : ¬ P ≤ p := fun hq => c20 ((nI_leI (a := P) (b := p) (by omega) (by omega)).mpr hq)
        refine j_aload_n EE 2 dX0_acceptedAbove_23 rfl rfl ?_
        refine j_get (T := TX0) EE iw_X0_acceptedAbove_X0 0 rfl rfl 1 (by decide) lk_X0_acceptedAbove_13 rfl dX0_acceptedAbove_24 ?_
        refine j_iload EE 0 dX0_acceptedAbove_27 rfl ?_
        refine j_iload_n EE 4 dX0_acceptedAbove_29 rfl rfl ?_
        refine j_S2 (n9 := 5) EE (c_X4_of p y (by omega) (by omega)) gX0_acceptedAbove_X4_of hd_X4_of rfl ⟨rfl, rfl⟩ ⟨by decide, by decide⟩ rfl [] rfl [0, 1, 2, 3, 4] [(a, .inr (0, [.ref (b), .ref (fa), .ref (fc), .int (nI ro), .int (nI sl)])), (b, .inr (1, [.int (nI P), .int (nI Y), .int (nI o), .int (nI t), .int (nI n), .ref (rb), .int (nI q), .long (lN S), .int (nI h)])), (rb, .inl (cI, 16, .inl (fun zz => nI (F zz)))), (fa, .inl (cI, 16, .inl (fun zz => nI (A zz)))), (fc, .inl (cI, 16, .inl (fun zz => nI (C zz))))] (fun _ => rfl) [(a, .inr (0, [.ref (b), .ref (fa), .ref (fc), .int (nI ro), .int (nI sl)])), (b, .inr (1, [.int (nI P), .int (nI Y), .int (nI o), .int (nI t), .int (nI n), .ref (rb), .int (nI q), .long (lN S), .int (nI h)])), (rb, .inl (cI, 16, .inl (fun zz => nI (F zz)))), (fa, .inl (cI, 16, .inl (fun zz => nI (A zz)))), (fc, .inl (cI, 16, .inl (fun zz => nI (C zz))))] [a, b, rb, fa, fc] rfl rfl rfl rfl rfl (by decide) (by decide) rfl (Nat.le_of_ble_eq_true rfl) dX0_acceptedAbove_30 (fun u_30 h_30 => ?_) rfl
        show J l _ D ε _ _ _ (.int (nI (p + 4 * y)) :: _)
        refine j_iald EE 3 0 rfl rfl (vp_in_nI (n := p + 4 * y) (by omega) (by decide)) dX0_acceptedAbove_33 ?_
        refine j_topE (congrArg (fun zz => nI (A zz)) (nI_clamp (n := p + 4 * y) (by omega))) ?_
        refine j_topE (y := nI (A (p + 4 * y))) rfl ?_
        refine j_iload_n EE 3 dX0_acceptedAbove_34 rfl rfl ?_
        refine j_SN2 (n9 := 5) EE (c_X9_bit (A (p + 4 * y)) u (by have := hA (p + 4 * y); omega) (by have := hA (p + 4 * y); omega)) gX0_acceptedAbove_X9_bit_n47 hd_X9_bit (by decide) mw_X0_acceptedAbove_iX9 mw_X0_acceptedAbove_s_X9_bit rfl ⟨rfl, rfl⟩ ⟨by decide, by decide⟩ rfl [] rfl [0, 1, 2, 3, 4] [(a, .inr (0, [.ref (b), .ref (fa), .ref (fc), .int (nI ro), .int (nI sl)])), (b, .inr (1, [.int (nI P), .int (nI Y), .int (nI o), .int (nI t), .int (nI n), .ref (rb), .int (nI q), .long (lN S), .int (nI h)])), (rb, .inl (cI, 16, .inl (fun zz => nI (F zz)))), (fa, .inl (cI, 16, .inl (fun zz => nI (A zz)))), (fc, .inl (cI, 16, .inl (fun zz => nI (C zz))))] (fun _ => rfl) [(a, .inr (0, [.ref (b), .ref (fa), .ref (fc), .int (nI ro), .int (nI sl)])), (b, .inr (1, [.int (nI P), .int (nI Y), .int (nI o), .int (nI t), .int (nI n), .ref (rb), .int (nI q), .long (lN S), .int (nI h)])), (rb, .inl (cI, 16, .inl (fun zz => nI (F zz)))), (fa, .inl (cI, 16, .inl (fun zz => nI (A zz)))), (fc, .inl (cI, 16, .inl (fun zz => nI (C zz))))] [a, b, rb, fa, fc] rfl rfl rfl rfl rfl (by decide) (by decide) rfl (Nat.le_of_ble_eq_true rfl) dX0_acceptedAbove_35 (fun u_35 h_35 => ?_) rfl
        show J l _ D ε _ _ _ (.int (nI (bt (A (p + 4 * y)) u)) :: _)
        refine j_iconst (v := nI 1) EE dX0_acceptedAbove_38 (by decide) ?_
        refine j_icmp_ne EE 50 dX0_acceptedAbove_39 (by decide) (fun c39 => ?_) (fun c39 => ?_)
        · skip
          have n39 : (bt (A (p + 4 * y)) u) ≠ 1 := fun hq => c39 ((nI_eq (a := (bt (A (p + 4 * y)) u)) (b := 1) (by have := bt_lt (A (p + 4 * y)) u; omega) (by have := bt_lt (A (p + 4 * y)) u; omega)).mpr hq)
          refine j_iinc (v := nI (p + 1)) EE 0 [(4, .int (nI (p + 1))), (3, _), (0, _), (1, _), (2, _)] dX0_acceptedAbove_50 rfl (nI_1 p) (Nat.lt_of_lt_of_eq (by decide) hL.symm) rfl ?_
          refine j_goto EE 11 dX0_acceptedAbove_53 (by decide) ?_
          first | rw [show wbit (aaL t A u y p) p 1 = aaL t A u y (p + 1) by conv => rhs; unfold aaL; rw [if_pos n39]] | rw [show aaL t A u y p = aaL t A u y (p + 1) by conv => rhs; unfold aaL; rw [if_neg n39]]
          exact ihp_11 (p + 1) (by omega) (by omega)
        · skip
          have n39 : (bt (A (p + 4 * y)) u) = 1 := (nI_eq (a := (bt (A (p + 4 * y)) u)) (b := 1) (by have := bt_lt (A (p + 4 * y)) u; omega) (by have := bt_lt (A (p + 4 * y)) u; omega)).mp c39
          refine j_iload_n EE 1 dX0_acceptedAbove_42 rfl rfl ?_
          refine j_iload EE 0 dX0_acceptedAbove_43 rfl ?_
          refine j_iconst (v := nI 1) EE dX0_acceptedAbove_45 (by decide) ?_
          refine j_SN2 (n9 := 5) EE (c_X9_withBit (aaL t A u y p) p 1 (by omega) (by omega) (by omega)) gX0_acceptedAbove_X9_withBit_n110 hd_X9_withBit (by decide) mw_X0_acceptedAbove_iX9 mw_X0_acceptedAbove_s_X9_withBit rfl ⟨rfl, rfl⟩ ⟨by decide, by decide⟩ rfl [] rfl [0, 1, 2, 3, 4] [(a, .inr (0, [.ref (b), .ref (fa), .ref (fc), .int (nI ro), .int (nI sl)])), (b, .inr (1, [.int (nI P), .int (nI Y), .int (nI o), .int (nI t), .int (nI n), .ref (rb), .int (nI q), .long (lN S), .int (nI h)])), (rb, .inl (cI, 16, .inl (fun zz => nI (F zz)))), (fa, .inl (cI, 16, .inl (fun zz => nI (A zz)))), (fc, .inl (cI, 16, .inl (fun zz => nI (C zz))))] (fun _ => rfl) [(a, .inr (0, [.ref (b), .ref (fa), .ref (fc), .int (nI ro), .int (nI sl)])), (b, .inr (1, [.int (nI P), .int (nI Y), .int (nI o), .int (nI t), .int (nI n), .ref (rb), .int (nI q), .long (lN S), .int (nI h)])), (rb, .inl (cI, 16, .inl (fun zz => nI (F zz)))), (fa, .inl (cI, 16, .inl (fun zz => nI (A zz)))), (fc, .inl (cI, 16, .inl (fun zz => nI (C zz))))] [a, b, rb, fa, fc] rfl rfl rfl rfl rfl (by decide) (by decide) rfl (Nat.le_of_ble_eq_true rfl) dX0_acceptedAbove_46 (fun u_46 h_46 => ?_) rfl
          show J l _ D ε _ _ _ (.int (nI (wbit (aaL t A u y p) p 1)) :: _)
          refine j_istore_n EE [(3, _), (4, _), (0, _), (1, _), (2, _)] dX0_acceptedAbove_49 rfl (Nat.lt_of_lt_of_eq (by decide) hL.symm) rfl ?_
          refine j_iinc (v := nI (p + 1)) EE 1 [(4, .int (nI (p + 1))), (3, _), (0, _), (1, _), (2, _)] dX0_acceptedAbove_50 rfl (nI_1 p) (Nat.lt_of_lt_of_eq (by decide) hL.symm) rfl ?_
          refine j_goto EE 11 dX0_acceptedAbove_53 (by decide) ?_
          first | rw [show wbit (aaL t A u y p) p 1 = aaL t A u y (p + 1) by conv => rhs; unfold aaL; rw [if_pos n39]] | rw [show aaL t A u y p = aaL t A u y (p + 1) by conv => rhs; unfold aaL; rw [if_neg n39]]
          exact ihp_11 (p + 1) (by omega) (by omega)
  refine j_aload_n EE 0 dX0_acceptedAbove_0 rfl rfl ?_
  refine j_get (T := TX0) EE iw_X0_acceptedAbove_X0 0 rfl rfl 0 (by decide) lk_X0_acceptedAbove_24 rfl dX0_acceptedAbove_1 ?_
  refine j_get (T := TX1) EE iw_X0_acceptedAbove_X1 1 rfl rfl 3 (by decide) lk_X0_acceptedAbove_44 rfl dX0_acceptedAbove_4 ?_
  refine j_istore_n EE [(3, _), (0, _), (1, _), (2, _)] dX0_acceptedAbove_7 rfl (Nat.lt_of_lt_of_eq (by decide) hL.symm) rfl ?_
  refine j_iconst (v := nI 0) EE dX0_acceptedAbove_8 (by decide) ?_
  refine j_istore EE [(4, _), (3, _), (0, _), (1, _), (2, _)] dX0_acceptedAbove_9 (Nat.lt_of_lt_of_eq (by decide) hL.symm) rfl ?_
  exact Lp_11 _ 0 (Nat.lt_succ_self _) (by omega)

theorem mw_X0_accepts_iX9 : Cond.initialized RX9 ∈ wsX0_accepts := List.mem_of_getElem? (i := 19) rfl
theorem mw_X0_accepts_s_X9_bit : Cond.static yX9_bit ∈ wsX0_accepts := List.mem_of_getElem? (i := 18) rfl
theorem hd_X0_acceptedAbove : yX0_acceptedAbove.cls ≠ "java/lang/invoke/MethodHandle" ∧ yX0_acceptedAbove.cls ≠ "java/lang/invoke/VarHandle" ∧ (parseMethodDescriptor yX0_acceptedAbove.desc).map (fun d => d.parameters.length) = some 2 := by decide +kernel
theorem iw_X0_accepts_X0 : ∀ w ∈ wsX00, w ∈ wsX0_accepts := fun _ h => List.mem_cons_of_mem _ (List.mem_append_left _ (List.mem_append_right _ h))
theorem lk_X0_accepts_24 : Cond.fieldLink RX0 24 (TX0 0).1 (TX0 0).2.1 (TX0 0).2.2.1 ∈ wsX0_accepts := List.mem_of_getElem? (i := 1) rfl
theorem iw_X0_accepts_X1 : ∀ w ∈ wsX10, w ∈ wsX0_accepts := fun _ h => List.mem_cons_of_mem _ (List.mem_append_right _ h)
theorem lk_X0_accepts_44 : Cond.fieldLink RX0 44 (TX1 3).1 (TX1 3).2.1 (TX1 3).2.2.1 ∈ wsX0_accepts := List.mem_of_getElem? (i := 2) rfl
set_option maxHeartbeats 4000000 in
set_option maxRecDepth 100000 in
theorem c_X0_accepts (a b rb fa fc P Y o t n q S h ro sl : Nat) (F A C : Nat → Nat) (p sk hh : Nat) (hp : p < 4) (hsk : sk < 2 ^ 62) (hhh : hh ≤ 24) (ht : t < 16) (hP : P ≤ 4) (hA : ∀ i, A i < 65536) : Ct l yX0_accepts wsX0_accepts (rmD (2)) D [(cI, .int), (cC, .char), (cJ, .long), (cG, .object "PushdownGameSolver$Game")] [.ref (a), .int (nI p), .long (lN sk), .int (nI hh)] [(a, .inr (0, [.ref (b), .ref (fa), .ref (fc), .int (nI ro), .int (nI sl)])), (b, .inr (1, [.int (nI P), .int (nI Y), .int (nI o), .int (nI t), .int (nI n), .ref (rb), .int (nI q), .long (lN S), .int (nI h)])), (rb, .inl (cI, 16, .inl (fun zz => nI (F zz)))), (fa, .inl (cI, 16, .inl (fun zz => nI (A zz)))), (fc, .inl (cI, 16, .inl (fun zz => nI (C zz))))] (S := Unit) (fun _ => True) (fun _ => some (.int (nI (bt (acD t P A sk hh hh) p)))) (fun _ => [(a, .inr (0, [.ref (b), .ref (fa), .ref (fc), .int (nI ro), .int (nI sl)])), (b, .inr (1, [.int (nI P), .int (nI Y), .int (nI o), .int (nI t), .int (nI n), .ref (rb), .int (nI q), .long (lN S), .int (nI h)])), (rb, .inl (cI, 16, .inl (fun zz => nI (F zz)))), (fa, .inl (cI, 16, .inl (fun zz => nI (A zz)))), (fc, .inl (cI, 16, .inl (fun zz => nI (C zz))))]) := by
  refine Ct.of (lv := [(0, .ref (a)), (1, .int (nI p)), (2, .long (lN sk)), (4, .int (nI hh))]) (by decide) rfl (Nat.le_of_ble_eq_true rfl) rfl ?_
  intro ε hL EE FF
  have Lp_15 : ∀ (nf : Nat), ∀ (r : Nat), r < nf → (r ≤ hh) → J l (rmD (2)) D ε [(a, .inr (0, [.ref (b), .ref (fa), .ref (fc), .int (nI ro), .int (nI sl)])), (b, .inr (1, [.int (nI P), .int (nI Y), .int (nI o), .int (nI t), .int (nI n), .ref (rb), .int (nI q), .long (lN S), .int (nI h)])), (rb, .inl (cI, 16, .inl (fun zz => nI (F zz)))), (fa, .inl (cI, 16, .inl (fun zz => nI (A zz)))), (fc, .inl (cI, 16, .inl (fun zz => nI (C zz))))] 15 [(6, .int (nI r - nI 1)), (5, .int (nI (acD t P A sk hh (hh - r)))), (0, .ref (a)), (1, .int (nI p)), (2, .long (lN sk)), (4, .int (nI hh))] [] := by
    intro nf
    induction nf with
    | zero => intro r hm; exact absurd hm (Nat.not_lt_zero _)
    | succ nf ihp_15 =>
      intro r hm15 hr
      have hal := acD_lt (A := A) (S := sk) (h := hh) ht hP (hh - r)
      refine j_iload EE 0 dX0_accepts_15 rfl ?_
      refine j_if_lt EE 40 dX0_accepts_17 (by decide) (fun c17 => ?_) (fun c17 => ?_)
      · skip
        have m17 : r = 0 := by
          rcases Nat.eq_zero_or_pos r with hz | hz
          · exact hz
          · exact absurd c17 (by rw [pk_sub (by omega)]; exact nI_pos (by omega))
        refine j_iload EE 1 dX0_accepts_40 rfl ?_
        refine j_iload_n EE 3 dX0_accepts_42 rfl rfl ?_
        refine j_SN2 (n9 := 5) EE (c_X9_bit (acD t P A sk hh (hh - r)) p (by omega) (by omega)) gX0_accepts_X9_bit_n47 hd_X9_bit (by decide) mw_X0_accepts_iX9 mw_X0_accepts_s_X9_bit rfl ⟨rfl, rfl⟩ ⟨by decide, by decide⟩ rfl [] rfl [0, 1, 2, 3, 4] [(a, .inr (0, [.ref (b), .ref (fa), .ref (fc), .int (nI ro), .int (nI sl)])), (b, .inr (1, [.int (nI P), .int (nI Y), .int (nI o), .int (nI t), .int (nI n), .ref (rb), .int (nI q), .long (lN S), .int (nI h)])), (rb, .inl (cI, 16, .inl (fun zz => nI (F zz)))), (fa, .inl (cI, 16, .inl (fun zz => nI (A zz)))), (fc, .inl (cI, 16, .inl (fun zz => nI (C zz))))] (fun _ => rfl) [(a, .inr (0, [.ref (b), .ref (fa), .ref (fc), .int (nI ro), .int (nI sl)])), (b, .inr (1, [.int (nI P), .int (nI Y), .int (nI o), .int (nI t), .int (nI n), .ref (rb), .int (nI q), .long (lN S), .int (nI h)])), (rb, .inl (cI, 16, .inl (fun zz => nI (F zz)))), (fa, .inl (cI, 16, .inl (fun zz => nI (A zz)))), (fc, .inl (cI, 16, .inl (fun zz => nI (C zz))))] [a, b, rb, fa, fc] rfl rfl rfl rfl rfl (by decide) (by decide) rfl (Nat.le_of_ble_eq_true rfl) dX0_accepts_43 (fun u_43 h_43 => ?_) rfl
        show J l _ D ε _ _ _ (.int (nI (bt (acD t P A sk hh (hh - r)) p)) :: _)
        refine j_iconst (v := nI 1) EE dX0_accepts_46 (by decide) ?_
        refine j_icmp_ne EE 54 dX0_accepts_47 (by decide) (fun c47 => ?_) (fun c47 => ?_)
        · skip
          have n47 : (bt (acD t P A sk hh (hh - r)) p) ≠ 1 := fun hq => c47 ((nI_eq (a := (bt (acD t P A sk hh (hh - r)) p)) (b := 1) (by have := bt_lt (acD t P A sk hh (hh - r)) p; omega) (by have := bt_lt (acD t P A sk hh (hh - r)) p; omega)).mpr hq)
          refine j_iconst (v := nI 0) EE dX0_accepts_54 (by decide) ?_
          exact j_zret EE FF (by decide) dX0_accepts_55 () trivial (by have hb9 := bt_lt (acD t P A sk hh (hh - r)) p; rw [show hh - r = hh by omega] at n47 hb9; first | rw [show bt (acD t P A sk hh hh) p = 1 by omega] | rw [show bt (acD t P A sk hh hh) p = 0 by omega]) rfl
        · skip
          have n47 : (bt (acD t P A sk hh (hh - r)) p) = 1 := (nI_eq (a := (bt (acD t P A sk hh (hh - r)) p)) (b := 1) (by have := bt_lt (acD t P A sk hh (hh - r)) p; omega) (by have := bt_lt (acD t P A sk hh (hh - r)) p; omega)).mp c47
          refine j_iconst (v := nI 1) EE dX0_accepts_50 (by decide) ?_
          refine j_goto EE 55 dX0_accepts_51 (by decide) ?_
          exact j_zret EE FF (by decide) dX0_accepts_55 () trivial (by have hb9 := bt_lt (acD t P A sk hh (hh - r)) p; rw [show hh - r = hh by omega] at n47 hb9; first | rw [show bt (acD t P A sk hh hh) p = 1 by omega] | rw [show bt (acD t P A sk hh hh) p = 0 by omega]) rfl
      · skip
        have m17 : 1 ≤ r := by
          rcases Nat.eq_zero_or_pos r with hz | hz
          · exact absurd (by rw [hz]; decide) c17
          · exact hz
        refine j_aload_n EE 2 dX0_accepts_20 rfl rfl ?_
        refine j_iload EE 1 dX0_accepts_21 rfl ?_
        refine j_lload_n EE 4 dX0_accepts_23 rfl rfl ?_
        refine j_iload EE 0 dX0_accepts_24 rfl ?_
        refine j_topE (y := nI (r - 1)) (pk_sub (by omega)) ?_
        refine j_S2 (n9 := 5) EE (c_X7_symbolAt sk (r - 1) (by omega) (by omega)) gX0_accepts_X7_symbolAt hd_X7_symbolAt rfl ⟨rfl, rfl⟩ ⟨by decide, by decide⟩ rfl [] rfl [0, 1, 2, 3, 4] [(a, .inr (0, [.ref (b), .ref (fa), .ref (fc), .int (nI ro), .int (nI sl)])), (b, .inr (1, [.int (nI P), .int (nI Y), .int (nI o), .int (nI t), .int (nI n), .ref (rb), .int (nI q), .long (lN S), .int (nI h)])), (rb, .inl (cI, 16, .inl (fun zz => nI (F zz)))), (fa, .inl (cI, 16, .inl (fun zz => nI (A zz)))), (fc, .inl (cI, 16, .inl (fun zz => nI (C zz))))] (fun _ => rfl) [(a, .inr (0, [.ref (b), .ref (fa), .ref (fc), .int (nI ro), .int (nI sl)])), (b, .inr (1, [.int (nI P), .int (nI Y), .int (nI o), .int (nI t), .int (nI n), .ref (rb), .int (nI q), .long (lN S), .int (nI h)])), (rb, .inl (cI, 16, .inl (fun zz => nI (F zz)))), (fa, .inl (cI, 16, .inl (fun zz => nI (A zz)))), (fc, .inl (cI, 16, .inl (fun zz => nI (C zz))))] [a, b, rb, fa, fc] rfl rfl rfl rfl rfl (by decide) (by decide) rfl (Nat.le_of_ble_eq_true rfl) dX0_accepts_26 (fun u_26 h_26 => ?_) rfl
        show J l _ D ε _ _ _ (.int (nI (sk / 4 ^ (r - 1) % 4)) :: _)
        refine j_V2 (n9 := 5) EE (c_X0_acceptedAbove a b rb fa fc P Y o t n q S h ro sl F A C (acD t P A sk hh (hh - r)) (sk / 4 ^ (r - 1) % 4) (by omega) (by omega) (by omega) (by omega) hA) gX0_accepts_X0_acceptedAbove ⟨rfl, hd_X0_acceptedAbove⟩ rfl ⟨rfl, rfl⟩ ⟨by decide, by decide⟩ rfl [0, 1, 2, 3, 4] rfl [] [(a, .inr (0, [.ref (b), .ref (fa), .ref (fc), .int (nI ro), .int (nI sl)])), (b, .inr (1, [.int (nI P), .int (nI Y), .int (nI o), .int (nI t), .int (nI n), .ref (rb), .int (nI q), .long (lN S), .int (nI h)])), (rb, .inl (cI, 16, .inl (fun zz => nI (F zz)))), (fa, .inl (cI, 16, .inl (fun zz => nI (A zz)))), (fc, .inl (cI, 16, .inl (fun zz => nI (C zz))))] (fun _ => rfl) [] [a, b, rb, fa, fc] rfl rfl rfl rfl rfl (by decide) (by decide) 0 rfl rfl rfl (Nat.le_of_ble_eq_true rfl) dX0_accepts_29 (fun u_29 h_29 => ?_) rfl
        show J l _ D ε _ _ _ (.int (nI (aaL t A (acD t P A sk hh (hh - r)) (sk / 4 ^ (r - 1) % 4) P)) :: _)
        refine j_istore EE [(5, _), (6, _), (0, _), (1, _), (2, _), (4, _)] dX0_accepts_32 (Nat.lt_of_lt_of_eq (by decide) hL.symm) rfl ?_
        refine j_iinc (v := nI (r - 1) - nI 1) EE 1 [(6, .int (nI (r - 1) - nI 1)), (5, _), (0, _), (1, _), (2, _), (4, _)] dX0_accepts_34 rfl (by rw [pk_sub (a := r) (b := 1) (by omega), Int32.sub_eq_add_neg]; rfl) (Nat.lt_of_lt_of_eq (by decide) hL.symm) rfl ?_
        refine j_goto EE 15 dX0_accepts_37 (by decide) ?_
        rw [show aaL t A (acD t P A sk hh (hh - r)) (sk / 4 ^ (r - 1) % 4) P = acD t P A sk hh (hh - (r - 1)) by rw [show hh - (r - 1) = (hh - r) + 1 by omega]; conv => rhs; unfold acD; rw [show hh - 1 - (hh - r) = r - 1 by omega]]
        exact ihp_15 (r - 1) (by omega) (by omega)
  refine j_aload_n EE 0 dX0_accepts_0 rfl rfl ?_
  refine j_get (T := TX0) EE iw_X0_accepts_X0 0 rfl rfl 0 (by decide) lk_X0_accepts_24 rfl dX0_accepts_1 ?_
  refine j_get (T := TX1) EE iw_X0_accepts_X1 1 rfl rfl 3 (by decide) lk_X0_accepts_44 rfl dX0_accepts_4 ?_
  refine j_istore EE [(5, _), (0, _), (1, _), (2, _), (4, _)] dX0_accepts_7 (Nat.lt_of_lt_of_eq (by decide) hL.symm) rfl ?_
  refine j_iload EE 4 dX0_accepts_9 rfl ?_
  refine j_iconst (v := nI 1) EE dX0_accepts_11 (by decide) ?_
  refine j_isub EE dX0_accepts_12 ?_
  refine j_topE (y := nI hh - nI 1) rfl ?_
  refine j_istore EE [(6, _), (5, _), (0, _), (1, _), (2, _), (4, _)] dX0_accepts_13 (Nat.lt_of_lt_of_eq (by decide) hL.symm) rfl ?_
  have hx9 := Lp_15 _ hh (Nat.lt_succ_self _) (by omega)
  rw [Nat.sub_self] at hx9
  exact hx9

theorem mw_X0_isMinimal_iX9 : Cond.initialized RX9 ∈ wsX0_isMinimal := List.mem_of_getElem? (i := 2) rfl
theorem mw_X0_isMinimal_s_X9_bit : Cond.static yX9_bit ∈ wsX0_isMinimal := List.mem_of_getElem? (i := 1) rfl
theorem mw_X0_isMinimal_s_X9_withBit : Cond.static yX9_withBit ∈ wsX0_isMinimal := List.mem_of_getElem? (i := 4) rfl
set_option maxHeartbeats 4000000 in
set_option maxRecDepth 100000 in
theorem c_X0_isMinimal (fm s : Nat) (hf : fm < 65536) (hs : s < 16) : Ct l yX0_isMinimal wsX0_isMinimal (rmD (1)) D [(cI, .int), (cC, .char), (cJ, .long), (cG, .object "PushdownGameSolver$Game")] [.int (nI fm), .int (nI s)] [] (S := Unit) (fun _ => True) (fun _ => some (.int (nI (b2n (isMin fm s))))) (fun _ => []) := by
  refine Ct.of (lv := [(0, .int (nI fm)), (1, .int (nI s))]) (by decide) rfl (Nat.le_of_ble_eq_true rfl) rfl ?_
  intro ε hL EE FF
  have Lp_12 : ∀ (nf : Nat), ∀ (v : Nat), 4 - v < nf → (v ≤ 4) → (mnB fm s v = true) → (bt fm s ≠ 0) → J l (rmD (1)) D ε [] 12 [(2, .int (nI v)), (0, .int (nI fm)), (1, .int (nI s))] [] := by
    intro nf
    induction nf with
    | zero => intro v hm; exact absurd hm (Nat.not_lt_zero _)
    | succ nf ihp_12 =>
      intro v hm12 hv hm h5
      refine j_iload_n EE 0 dX0_isMinimal_12 rfl rfl ?_
      refine j_iconst (v := nI 4) EE dX0_isMinimal_13 (by decide) ?_
      refine j_icmp_ge EE 48 dX0_isMinimal_14 (by decide) (fun c14 => ?_) (fun c14 => ?_)
      · skip
        have n14 : 4 ≤ v := (nI_leI (a := 4) (b := v) (by omega) (by omega)).mp c14
        refine j_iconst (v := nI 1) EE dX0_isMinimal_48 (by decide) ?_
        exact j_zret EE FF (by decide) dX0_isMinimal_49 () trivial (by have := bt_lt fm s; unfold isMin; rw [decide_eq_true (show bt fm s = 1 by omega), show 4 = v by omega, hm]; rfl) rfl
      · skip
        have n14 : ¬ 4 ≤ v := fun hq => c14 ((nI_leI (a := 4) (b := v) (by omega) (by omega)).mpr hq)
        refine j_iload_n EE 2 dX0_isMinimal_17 rfl rfl ?_
        refine j_iload_n EE 0 dX0_isMinimal_18 rfl rfl ?_
        refine j_SN EE (c_X9_bit s v (by omega) (by omega)) gX0_isMinimal_X9_bit_n47 hd_X9_bit (by decide) mw_X0_isMinimal_iX9 mw_X0_isMinimal_s_X9_bit rfl ⟨rfl, rfl⟩ ⟨by decide, by decide⟩ rfl [] rfl (fun _ => rfl) rfl (Nat.le_of_ble_eq_true rfl) dX0_isMinimal_19 (fun u_19 h_19 => ?_) rfl
        show J l _ D ε _ _ _ (.int (nI (bt s v)) :: _)
        refine j_iconst (v := nI 1) EE dX0_isMinimal_22 (by decide) ?_
        refine j_icmp_ne EE 42 dX0_isMinimal_23 (by decide) (fun c23 => ?_) (fun c23 => ?_)
        · skip
          have n23 : (bt s v) ≠ 1 := fun hq => c23 ((nI_eq (a := (bt s v)) (b := 1) (by have := bt_lt s v; omega) (by have := bt_lt s v; omega)).mpr hq)
          refine j_iinc (v := nI (v + 1)) EE 0 [(2, .int (nI (v + 1))), (0, _), (1, _)] dX0_isMinimal_42 rfl (nI_1 v) (Nat.lt_of_lt_of_eq (by decide) hL.symm) rfl ?_
          refine j_goto EE 12 dX0_isMinimal_45 (by decide) ?_
          exact ihp_12 (v + 1) (by omega) (by omega) (by unfold mnB; rw [hm]; first | (simp [n23]; done) | (simp [n23, n37]; done)) h5
        · skip
          have n23 : (bt s v) = 1 := (nI_eq (a := (bt s v)) (b := 1) (by have := bt_lt s v; omega) (by have := bt_lt s v; omega)).mp c23
          refine j_iload_n EE 1 dX0_isMinimal_26 rfl rfl ?_
          refine j_iload_n EE 2 dX0_isMinimal_27 rfl rfl ?_
          refine j_iload_n EE 0 dX0_isMinimal_28 rfl rfl ?_
          refine j_iconst (v := nI 0) EE dX0_isMinimal_29 (by decide) ?_
          refine j_SN EE (c_X9_withBit s v 0 (by omega) (by omega) (by omega)) gX0_isMinimal_X9_withBit_n110 hd_X9_withBit (by decide) mw_X0_isMinimal_iX9 mw_X0_isMinimal_s_X9_withBit rfl ⟨rfl, rfl⟩ ⟨by decide, by decide⟩ rfl [] rfl (fun _ => rfl) rfl (Nat.le_of_ble_eq_true rfl) dX0_isMinimal_30 (fun u_30 h_30 => ?_) rfl
          show J l _ D ε _ _ _ (.int (nI (wbit s v 0)) :: _)
          have hw9 := wbit_lt s hs v (by omega) 0 (by decide)
          refine j_SN EE (c_X9_bit fm (wbit s v 0) (by omega) (by omega)) gX0_isMinimal_X9_bit_n47 hd_X9_bit (by decide) mw_X0_isMinimal_iX9 mw_X0_isMinimal_s_X9_bit rfl ⟨rfl, rfl⟩ ⟨by decide, by decide⟩ rfl [] rfl (fun _ => rfl) rfl (Nat.le_of_ble_eq_true rfl) dX0_isMinimal_33 (fun u_33 h_33 => ?_) rfl
          show J l _ D ε _ _ _ (.int (nI (bt fm (wbit s v 0))) :: _)
          refine j_iconst (v := nI 1) EE dX0_isMinimal_36 (by decide) ?_
          refine j_icmp_ne EE 42 dX0_isMinimal_37 (by decide) (fun c37 => ?_) (fun c37 => ?_)
          · skip
            have n37 : (bt fm (wbit s v 0)) ≠ 1 := fun hq => c37 ((nI_eq (a := (bt fm (wbit s v 0))) (b := 1) (by have := bt_lt fm (wbit s v 0); omega) (by have := bt_lt fm (wbit s v 0); omega)).mpr hq)
            refine j_iinc (v := nI (v + 1)) EE 0 [(2, .int (nI (v + 1))), (0, _), (1, _)] dX0_isMinimal_42 rfl (nI_1 v) (Nat.lt_of_lt_of_eq (by decide) hL.symm) rfl ?_
            refine j_goto EE 12 dX0_isMinimal_45 (by decide) ?_
            exact ihp_12 (v + 1) (by omega) (by omega) (by unfold mnB; rw [hm]; first | (simp [n23]; done) | (simp [n23, n37]; done)) h5
          · skip
            have n37 : (bt fm (wbit s v 0)) = 1 := (nI_eq (a := (bt fm (wbit s v 0))) (b := 1) (by have := bt_lt fm (wbit s v 0); omega) (by have := bt_lt fm (wbit s v 0); omega)).mp c37
            refine j_iconst (v := nI 0) EE dX0_isMinimal_40 (by decide) ?_
            exact j_zret EE FF (by decide) dX0_isMinimal_41 () trivial (by unfold isMin; rw [mnB_f n23 n37 4 (by omega), Bool.and_false]; rfl) rfl
  refine j_iload_n EE 0 dX0_isMinimal_0 rfl rfl ?_
  refine j_iload_n EE 1 dX0_isMinimal_1 rfl rfl ?_
  refine j_SN EE (c_X9_bit fm s (by omega) (by omega)) gX0_isMinimal_X9_bit_n47 hd_X9_bit (by decide) mw_X0_isMinimal_iX9 mw_X0_isMinimal_s_X9_bit rfl ⟨rfl, rfl⟩ ⟨by decide, by decide⟩ rfl [] rfl (fun _ => rfl) rfl (Nat.le_of_ble_eq_true rfl) dX0_isMinimal_2 (fun u_2 h_2 => ?_) rfl
  show J l _ D ε _ _ _ (.int (nI (bt fm s)) :: _)
  refine j_if_ne EE 10 dX0_isMinimal_5 (by decide) (fun c5 => ?_) (fun c5 => ?_)
  · skip
    have n5 : (bt fm s) ≠ 0 := fun hq => c5 ((nI_eq (a := (bt fm s)) (b := 0) (by have := bt_lt fm s; omega) (by have := bt_lt fm s; omega)).mpr hq)
    refine j_iconst (v := nI 0) EE dX0_isMinimal_10 (by decide) ?_
    refine j_istore_n EE [(2, _), (0, _), (1, _)] dX0_isMinimal_11 rfl (Nat.lt_of_lt_of_eq (by decide) hL.symm) rfl ?_
    exact Lp_12 _ 0 (Nat.lt_succ_self _) (by omega) rfl n5
  · skip
    have n5 : (bt fm s) = 0 := (nI_eq (a := (bt fm s)) (b := 0) (by have := bt_lt fm s; omega) (by have := bt_lt fm s; omega)).mp c5
    refine j_iconst (v := nI 0) EE dX0_isMinimal_8 (by decide) ?_
    exact j_zret EE FF (by decide) dX0_isMinimal_9 () trivial (by unfold isMin; rw [decide_eq_false (by omega)]; rfl) rfl

theorem hd_X0_isMinimal : yX0_isMinimal.cls ≠ "java/lang/invoke/MethodHandle" ∧ yX0_isMinimal.cls ≠ "java/lang/invoke/VarHandle" ∧ (parseMethodDescriptor yX0_isMinimal.desc).map (fun d => d.parameters.length) = some 2 := by decide +kernel
theorem iw_X0_minimalSets_X0 : ∀ w ∈ wsX00, w ∈ wsX0_minimalSets := fun _ h => List.mem_cons_of_mem _ (List.mem_append_right _ h)
theorem lk_X0_minimalSets_13 : Cond.fieldLink RX0 13 (TX0 1).1 (TX0 1).2.1 (TX0 1).2.2.1 ∈ wsX0_minimalSets := List.mem_of_getElem? (i := 1) rfl
set_option maxHeartbeats 4000000 in
set_option maxRecDepth 100000 in
theorem c_X0_minimalSets (a b rb fa fc P Y o t n q S h ro sl : Nat) (F A C : Nat → Nat) (p y : Nat) (hp : p < 4) (hy : y < 4) (hA : ∀ i, A i < 65536) : Ct l yX0_minimalSets wsX0_minimalSets (rmD (2)) D [(cI, .int), (cC, .char), (cJ, .long), (cG, .object "PushdownGameSolver$Game")] [.ref (a), .int (nI p), .int (nI y)] [(a, .inr (0, [.ref (b), .ref (fa), .ref (fc), .int (nI ro), .int (nI sl)])), (b, .inr (1, [.int (nI P), .int (nI Y), .int (nI o), .int (nI t), .int (nI n), .ref (rb), .int (nI q), .long (lN S), .int (nI h)])), (rb, .inl (cI, 16, .inl (fun zz => nI (F zz)))), (fa, .inl (cI, 16, .inl (fun zz => nI (A zz)))), (fc, .inl (cI, 16, .inl (fun zz => nI (C zz))))] (S := Unit) (fun _ => True) (fun _ => some (.int (nI (mnC (A (p + 4 * y)) 16)))) (fun _ => [(a, .inr (0, [.ref (b), .ref (fa), .ref (fc), .int (nI ro), .int (nI sl)])), (b, .inr (1, [.int (nI P), .int (nI Y), .int (nI o), .int (nI t), .int (nI n), .ref (rb), .int (nI q), .long (lN S), .int (nI h)])), (rb, .inl (cI, 16, .inl (fun zz => nI (F zz)))), (fa, .inl (cI, 16, .inl (fun zz => nI (A zz)))), (fc, .inl (cI, 16, .inl (fun zz => nI (C zz))))]) := by
  refine Ct.of (lv := [(0, .ref (a)), (1, .int (nI p)), (2, .int (nI y))]) (by decide) rfl (Nat.le_of_ble_eq_true rfl) rfl ?_
  intro ε hL EE FF
  have hAp := hA (p + 4 * y)
  have Lp_17 : ∀ (nf : Nat), ∀ (s : Nat), 16 - s < nf → (s ≤ 16) → J l (rmD (2)) D ε [(a, .inr (0, [.ref (b), .ref (fa), .ref (fc), .int (nI ro), .int (nI sl)])), (b, .inr (1, [.int (nI P), .int (nI Y), .int (nI o), .int (nI t), .int (nI n), .ref (rb), .int (nI q), .long (lN S), .int (nI h)])), (rb, .inl (cI, 16, .inl (fun zz => nI (F zz)))), (fa, .inl (cI, 16, .inl (fun zz => nI (A zz)))), (fc, .inl (cI, 16, .inl (fun zz => nI (C zz))))] 17 [(5, .int (nI s)), (4, .int (nI (mnC (A (p + 4 * y)) s))), (3, .int (nI (A (p + 4 * y)))), (0, .ref (a)), (1, .int (nI p)), (2, .int (nI y))] [] := by
    intro nf
    induction nf with
    | zero => intro s hm; exact absurd hm (Nat.not_lt_zero _)
    | succ nf ihp_17 =>
      intro s hm17 hs
      refine j_iload EE 0 dX0_minimalSets_17 rfl ?_
      refine j_bipush (v := nI 16) EE dX0_minimalSets_19 (by decide) ?_
      refine j_icmp_ge EE 42 dX0_minimalSets_21 (by decide) (fun c21 => ?_) (fun c21 => ?_)
      · skip
        have n21 : 16 ≤ s := (nI_leI (a := 16) (b := s) (by omega) (by omega)).mp c21
        refine j_iload EE 1 dX0_minimalSets_42 rfl ?_
        exact j_iret EE FF dX0_minimalSets_44 () trivial (by rw [show 16 = s by omega]) rfl
      · skip
        have n21 : ¬ 16 ≤ s := fun hq => c21 ((nI_leI (a := 16) (b := s) (by omega) (by omega)).mpr hq)
        refine j_iload_n EE 2 dX0_minimalSets_24 rfl rfl ?_
        refine j_iload EE 0 dX0_minimalSets_25 rfl ?_
        refine j_S2 (n9 := 5) EE (c_X0_isMinimal (A (p + 4 * y)) s (by omega) (by omega)) gX0_minimalSets_X0_isMinimal hd_X0_isMinimal rfl ⟨rfl, rfl⟩ ⟨by decide, by decide⟩ rfl [] rfl [0, 1, 2, 3, 4] [(a, .inr (0, [.ref (b), .ref (fa), .ref (fc), .int (nI ro), .int (nI sl)])), (b, .inr (1, [.int (nI P), .int (nI Y), .int (nI o), .int (nI t), .int (nI n), .ref (rb), .int (nI q), .long (lN S), .int (nI h)])), (rb, .inl (cI, 16, .inl (fun zz => nI (F zz)))), (fa, .inl (cI, 16, .inl (fun zz => nI (A zz)))), (fc, .inl (cI, 16, .inl (fun zz => nI (C zz))))] (fun _ => rfl) [(a, .inr (0, [.ref (b), .ref (fa), .ref (fc), .int (nI ro), .int (nI sl)])), (b, .inr (1, [.int (nI P), .int (nI Y), .int (nI o), .int (nI t), .int (nI n), .ref (rb), .int (nI q), .long (lN S), .int (nI h)])), (rb, .inl (cI, 16, .inl (fun zz => nI (F zz)))), (fa, .inl (cI, 16, .inl (fun zz => nI (A zz)))), (fc, .inl (cI, 16, .inl (fun zz => nI (C zz))))] [a, b, rb, fa, fc] rfl rfl rfl rfl rfl (by decide) (by decide) rfl (Nat.le_of_ble_eq_true rfl) dX0_minimalSets_27 (fun u_27 h_27 => ?_) rfl
        show J l _ D ε _ _ _ (.int (nI (b2n (isMin (A (p + 4 * y)) s))) :: _)
        refine j_if_eq EE 36 dX0_minimalSets_30 (by decide) (fun c30 => ?_) (fun c30 => ?_)
        · skip
          have n30 : (b2n (isMin (A (p + 4 * y)) s)) = 0 := (nI_eq (a := (b2n (isMin (A (p + 4 * y)) s))) (b := 0) (by have := b2n_lt (isMin (A (p + 4 * y)) s); omega) (by have := b2n_lt (isMin (A (p + 4 * y)) s); omega)).mp c30
          refine j_iinc (v := nI (s + 1)) EE 0 [(5, .int (nI (s + 1))), (4, _), (3, _), (0, _), (1, _), (2, _)] dX0_minimalSets_36 rfl (nI_1 s) (Nat.lt_of_lt_of_eq (by decide) hL.symm) rfl ?_
          refine j_goto EE 17 dX0_minimalSets_39 (by decide) ?_
          first | rw [show mnC (A (p + 4 * y)) s + 1 = mnC (A (p + 4 * y)) (s + 1) by show mnC (A (p + 4 * y)) s + 1 = mnC (A (p + 4 * y)) s + b2n (isMin (A (p + 4 * y)) s); rw [b2n_ne0 n30]; rfl] | rw [show mnC (A (p + 4 * y)) s = mnC (A (p + 4 * y)) (s + 1) by show mnC (A (p + 4 * y)) s = mnC (A (p + 4 * y)) s + b2n (isMin (A (p + 4 * y)) s); rw [b2n_0 n30]; rfl]
          exact ihp_17 (s + 1) (by omega) (by omega)
        · skip
          have n30 : (b2n (isMin (A (p + 4 * y)) s)) ≠ 0 := fun hq => c30 ((nI_eq (a := (b2n (isMin (A (p + 4 * y)) s))) (b := 0) (by have := b2n_lt (isMin (A (p + 4 * y)) s); omega) (by have := b2n_lt (isMin (A (p + 4 * y)) s); omega)).mpr hq)
          refine j_iinc (v := nI ((mnC (A (p + 4 * y)) s) + 1)) EE 1 [(4, .int (nI ((mnC (A (p + 4 * y)) s) + 1))), (5, _), (3, _), (0, _), (1, _), (2, _)] dX0_minimalSets_33 rfl (nI_1 (mnC (A (p + 4 * y)) s)) (Nat.lt_of_lt_of_eq (by decide) hL.symm) rfl ?_
          refine j_iinc (v := nI (s + 1)) EE 1 [(5, .int (nI (s + 1))), (4, _), (3, _), (0, _), (1, _), (2, _)] dX0_minimalSets_36 rfl (nI_1 s) (Nat.lt_of_lt_of_eq (by decide) hL.symm) rfl ?_
          refine j_goto EE 17 dX0_minimalSets_39 (by decide) ?_
          first | rw [show mnC (A (p + 4 * y)) s + 1 = mnC (A (p + 4 * y)) (s + 1) by show mnC (A (p + 4 * y)) s + 1 = mnC (A (p + 4 * y)) s + b2n (isMin (A (p + 4 * y)) s); rw [b2n_ne0 n30]; rfl] | rw [show mnC (A (p + 4 * y)) s = mnC (A (p + 4 * y)) (s + 1) by show mnC (A (p + 4 * y)) s = mnC (A (p + 4 * y)) s + b2n (isMin (A (p + 4 * y)) s); rw [b2n_0 n30]; rfl]
          exact ihp_17 (s + 1) (by omega) (by omega)
  refine j_aload_n EE 0 dX0_minimalSets_0 rfl rfl ?_
  refine j_get (T := TX0) EE iw_X0_minimalSets_X0 0 rfl rfl 1 (by decide) lk_X0_minimalSets_13 rfl dX0_minimalSets_1 ?_
  refine j_iload_n EE 1 dX0_minimalSets_4 rfl rfl ?_
  refine j_iload_n EE 2 dX0_minimalSets_5 rfl rfl ?_
  refine j_S2 (n9 := 5) EE (c_X4_of p y (by omega) (by omega)) gX0_minimalSets_X4_of hd_X4_of rfl ⟨rfl, rfl⟩ ⟨by decide, by decide⟩ rfl [] rfl [0, 1, 2, 3, 4] [(a, .inr (0, [.ref (b), .ref (fa), .ref (fc), .int (nI ro), .int (nI sl)])), (b, .inr (1, [.int (nI P), .int (nI Y), .int (nI o), .int (nI t), .int (nI n), .ref (rb), .int (nI q), .long (lN S), .int (nI h)])), (rb, .inl (cI, 16, .inl (fun zz => nI (F zz)))), (fa, .inl (cI, 16, .inl (fun zz => nI (A zz)))), (fc, .inl (cI, 16, .inl (fun zz => nI (C zz))))] (fun _ => rfl) [(a, .inr (0, [.ref (b), .ref (fa), .ref (fc), .int (nI ro), .int (nI sl)])), (b, .inr (1, [.int (nI P), .int (nI Y), .int (nI o), .int (nI t), .int (nI n), .ref (rb), .int (nI q), .long (lN S), .int (nI h)])), (rb, .inl (cI, 16, .inl (fun zz => nI (F zz)))), (fa, .inl (cI, 16, .inl (fun zz => nI (A zz)))), (fc, .inl (cI, 16, .inl (fun zz => nI (C zz))))] [a, b, rb, fa, fc] rfl rfl rfl rfl rfl (by decide) (by decide) rfl (Nat.le_of_ble_eq_true rfl) dX0_minimalSets_6 (fun u_6 h_6 => ?_) rfl
  show J l _ D ε _ _ _ (.int (nI (p + 4 * y)) :: _)
  refine j_iald EE 3 0 rfl rfl (vp_in_nI (n := p + 4 * y) (by omega) (by decide)) dX0_minimalSets_9 ?_
  refine j_topE (congrArg (fun zz => nI (A zz)) (nI_clamp (n := p + 4 * y) (by omega))) ?_
  refine j_topE (y := nI (A (p + 4 * y))) rfl ?_
  refine j_istore_n EE [(3, _), (0, _), (1, _), (2, _)] dX0_minimalSets_10 rfl (Nat.lt_of_lt_of_eq (by decide) hL.symm) rfl ?_
  refine j_iconst (v := nI 0) EE dX0_minimalSets_11 (by decide) ?_
  refine j_istore EE [(4, _), (3, _), (0, _), (1, _), (2, _)] dX0_minimalSets_12 (Nat.lt_of_lt_of_eq (by decide) hL.symm) rfl ?_
  refine j_iconst (v := nI 0) EE dX0_minimalSets_14 (by decide) ?_
  refine j_istore EE [(5, _), (4, _), (3, _), (0, _), (1, _), (2, _)] dX0_minimalSets_15 (Nat.lt_of_lt_of_eq (by decide) hL.symm) rfl ?_
  exact Lp_17 _ 0 (Nat.lt_succ_self _) (by omega)

theorem iw_X0_minimalSet_X0 : ∀ w ∈ wsX00, w ∈ wsX0_minimalSet := fun _ h => List.mem_cons_of_mem _ (List.mem_append_right _ h)
theorem lk_X0_minimalSet_13 : Cond.fieldLink RX0 13 (TX0 1).1 (TX0 1).2.1 (TX0 1).2.2.1 ∈ wsX0_minimalSet := List.mem_of_getElem? (i := 1) rfl
set_option maxHeartbeats 4000000 in
set_option maxRecDepth 100000 in
theorem c_X0_minimalSet (a b rb fa fc P Y o t n q S h ro sl : Nat) (F A C : Nat → Nat) (p y j : Nat) (hp : p < 4) (hy : y < 4) (hj : j < 2 ^ 31) (hA : ∀ i, A i < 65536) : Ct l yX0_minimalSet wsX0_minimalSet (rmD (2)) D [(cI, .int), (cC, .char), (cJ, .long), (cG, .object "PushdownGameSolver$Game")] [.ref (a), .int (nI p), .int (nI y), .int (nI j)] [(a, .inr (0, [.ref (b), .ref (fa), .ref (fc), .int (nI ro), .int (nI sl)])), (b, .inr (1, [.int (nI P), .int (nI Y), .int (nI o), .int (nI t), .int (nI n), .ref (rb), .int (nI q), .long (lN S), .int (nI h)])), (rb, .inl (cI, 16, .inl (fun zz => nI (F zz)))), (fa, .inl (cI, 16, .inl (fun zz => nI (A zz)))), (fc, .inl (cI, 16, .inl (fun zz => nI (C zz))))] (S := Unit) (fun _ => True) (fun _ => some (.int (mfL (A (p + 4 * y)) j 16 0))) (fun _ => [(a, .inr (0, [.ref (b), .ref (fa), .ref (fc), .int (nI ro), .int (nI sl)])), (b, .inr (1, [.int (nI P), .int (nI Y), .int (nI o), .int (nI t), .int (nI n), .ref (rb), .int (nI q), .long (lN S), .int (nI h)])), (rb, .inl (cI, 16, .inl (fun zz => nI (F zz)))), (fa, .inl (cI, 16, .inl (fun zz => nI (A zz)))), (fc, .inl (cI, 16, .inl (fun zz => nI (C zz))))]) := by
  refine Ct.of (lv := [(0, .ref (a)), (1, .int (nI p)), (2, .int (nI y)), (3, .int (nI j))]) (by decide) rfl (Nat.le_of_ble_eq_true rfl) rfl ?_
  intro ε hL EE FF
  have hAp := hA (p + 4 * y)
  have Lp_18 : ∀ (nf : Nat), ∀ (s : Nat), 16 - s < nf → (s ≤ 16) → (mfL (A (p + 4 * y)) j (16 - s) s = mfL (A (p + 4 * y)) j 16 0) → J l (rmD (2)) D ε [(a, .inr (0, [.ref (b), .ref (fa), .ref (fc), .int (nI ro), .int (nI sl)])), (b, .inr (1, [.int (nI P), .int (nI Y), .int (nI o), .int (nI t), .int (nI n), .ref (rb), .int (nI q), .long (lN S), .int (nI h)])), (rb, .inl (cI, 16, .inl (fun zz => nI (F zz)))), (fa, .inl (cI, 16, .inl (fun zz => nI (A zz)))), (fc, .inl (cI, 16, .inl (fun zz => nI (C zz))))] 18 [(6, .int (nI s)), (5, .int (nI (mnC (A (p + 4 * y)) s))), (4, .int (nI (A (p + 4 * y)))), (0, .ref (a)), (1, .int (nI p)), (2, .int (nI y)), (3, .int (nI j))] [] := by
    intro nf
    induction nf with
    | zero => intro s hm; exact absurd hm (Nat.not_lt_zero _)
    | succ nf ihp_18 =>
      intro s hm18 hs hq
      refine j_iload EE 0 dX0_minimalSet_18 rfl ?_
      refine j_bipush (v := nI 16) EE dX0_minimalSet_20 (by decide) ?_
      refine j_icmp_ge EE 53 dX0_minimalSet_22 (by decide) (fun c22 => ?_) (fun c22 => ?_)
      · skip
        have n22 : 16 ≤ s := (nI_leI (a := 16) (b := s) (by omega) (by omega)).mp c22
        refine j_bipush (v := (-4)) EE dX0_minimalSet_53 (by decide) ?_
        exact j_iret EE FF dX0_minimalSet_55 () trivial (by rw [← hq, show 16 - s = 0 by omega]; rfl) rfl
      · skip
        have n22 : ¬ 16 ≤ s := fun hq => c22 ((nI_leI (a := 16) (b := s) (by omega) (by omega)).mpr hq)
        refine j_iload EE 2 dX0_minimalSet_25 rfl ?_
        refine j_iload EE 0 dX0_minimalSet_27 rfl ?_
        refine j_S2 (n9 := 5) EE (c_X0_isMinimal (A (p + 4 * y)) s (by omega) (by omega)) gX0_minimalSet_X0_isMinimal hd_X0_isMinimal rfl ⟨rfl, rfl⟩ ⟨by decide, by decide⟩ rfl [] rfl [0, 1, 2, 3, 4] [(a, .inr (0, [.ref (b), .ref (fa), .ref (fc), .int (nI ro), .int (nI sl)])), (b, .inr (1, [.int (nI P), .int (nI Y), .int (nI o), .int (nI t), .int (nI n), .ref (rb), .int (nI q), .long (lN S), .int (nI h)])), (rb, .inl (cI, 16, .inl (fun zz => nI (F zz)))), (fa, .inl (cI, 16, .inl (fun zz => nI (A zz)))), (fc, .inl (cI, 16, .inl (fun zz => nI (C zz))))] (fun _ => rfl) [(a, .inr (0, [.ref (b), .ref (fa), .ref (fc), .int (nI ro), .int (nI sl)])), (b, .inr (1, [.int (nI P), .int (nI Y), .int (nI o), .int (nI t), .int (nI n), .ref (rb), .int (nI q), .long (lN S), .int (nI h)])), (rb, .inl (cI, 16, .inl (fun zz => nI (F zz)))), (fa, .inl (cI, 16, .inl (fun zz => nI (A zz)))), (fc, .inl (cI, 16, .inl (fun zz => nI (C zz))))] [a, b, rb, fa, fc] rfl rfl rfl rfl rfl (by decide) (by decide) rfl (Nat.le_of_ble_eq_true rfl) dX0_minimalSet_29 (fun u_29 h_29 => ?_) rfl
        show J l _ D ε _ _ _ (.int (nI (b2n (isMin (A (p + 4 * y)) s))) :: _)
        refine j_if_eq EE 47 dX0_minimalSet_32 (by decide) (fun c32 => ?_) (fun c32 => ?_)
        · skip
          have n32 : (b2n (isMin (A (p + 4 * y)) s)) = 0 := (nI_eq (a := (b2n (isMin (A (p + 4 * y)) s))) (b := 0) (by have := b2n_lt (isMin (A (p + 4 * y)) s); omega) (by have := b2n_lt (isMin (A (p + 4 * y)) s); omega)).mp c32
          refine j_iinc (v := nI (s + 1)) EE 0 [(6, .int (nI (s + 1))), (5, _), (4, _), (0, _), (1, _), (2, _), (3, _)] dX0_minimalSet_47 rfl (nI_1 s) (Nat.lt_of_lt_of_eq (by decide) hL.symm) rfl ?_
          refine j_goto EE 18 dX0_minimalSet_50 (by decide) ?_
          first | rw [show mnC (A (p + 4 * y)) s + 1 = mnC (A (p + 4 * y)) (s + 1) by show mnC (A (p + 4 * y)) s + 1 = mnC (A (p + 4 * y)) s + b2n (isMin (A (p + 4 * y)) s); rw [b2n_ne0 n32]; rfl] | rw [show mnC (A (p + 4 * y)) s = mnC (A (p + 4 * y)) (s + 1) by show mnC (A (p + 4 * y)) s = mnC (A (p + 4 * y)) s + b2n (isMin (A (p + 4 * y)) s); rw [b2n_0 n32]; rfl]
          exact ihp_18 (s + 1) (by omega) (by omega) (by rw [← hq]; exact mfL_s (by omega) (fun z => absurd z.1 (by rw [b2n_0 n32]; decide)))
        · skip
          have n32 : (b2n (isMin (A (p + 4 * y)) s)) ≠ 0 := fun hq => c32 ((nI_eq (a := (b2n (isMin (A (p + 4 * y)) s))) (b := 0) (by have := b2n_lt (isMin (A (p + 4 * y)) s); omega) (by have := b2n_lt (isMin (A (p + 4 * y)) s); omega)).mpr hq)
          refine j_iload EE 1 dX0_minimalSet_35 rfl ?_
          refine j_iload_n EE 6 dX0_minimalSet_37 rfl rfl ?_
          refine j_icmp_ne EE 44 dX0_minimalSet_38 (by decide) (fun c38 => ?_) (fun c38 => ?_)
          · skip
            have n38 : (mnC (A (p + 4 * y)) s) ≠ j := fun hq => c38 ((nI_eq (a := (mnC (A (p + 4 * y)) s)) (b := j) (by have := mnC_le (A (p + 4 * y)) s; omega) (by have := mnC_le (A (p + 4 * y)) s; omega)).mpr hq)
            refine j_iinc (v := nI ((mnC (A (p + 4 * y)) s) + 1)) EE 1 [(5, .int (nI ((mnC (A (p + 4 * y)) s) + 1))), (6, _), (4, _), (0, _), (1, _), (2, _), (3, _)] dX0_minimalSet_44 rfl (nI_1 (mnC (A (p + 4 * y)) s)) (Nat.lt_of_lt_of_eq (by decide) hL.symm) rfl ?_
            refine j_iinc (v := nI (s + 1)) EE 1 [(6, .int (nI (s + 1))), (5, _), (4, _), (0, _), (1, _), (2, _), (3, _)] dX0_minimalSet_47 rfl (nI_1 s) (Nat.lt_of_lt_of_eq (by decide) hL.symm) rfl ?_
            refine j_goto EE 18 dX0_minimalSet_50 (by decide) ?_
            first | rw [show mnC (A (p + 4 * y)) s + 1 = mnC (A (p + 4 * y)) (s + 1) by show mnC (A (p + 4 * y)) s + 1 = mnC (A (p + 4 * y)) s + b2n (isMin (A (p + 4 * y)) s); rw [b2n_ne0 n32]; rfl] | rw [show mnC (A (p + 4 * y)) s = mnC (A (p + 4 * y)) (s + 1) by show mnC (A (p + 4 * y)) s = mnC (A (p + 4 * y)) s + b2n (isMin (A (p + 4 * y)) s); rw [b2n_0 n32]; rfl]
            exact ihp_18 (s + 1) (by omega) (by omega) (by rw [← hq]; exact mfL_s (by omega) (fun z => n38 z.2))
          · skip
            have n38 : (mnC (A (p + 4 * y)) s) = j := (nI_eq (a := (mnC (A (p + 4 * y)) s)) (b := j) (by have := mnC_le (A (p + 4 * y)) s; omega) (by have := mnC_le (A (p + 4 * y)) s; omega)).mp c38
            refine j_iload EE 0 dX0_minimalSet_41 rfl ?_
            exact j_iret EE FF dX0_minimalSet_43 () trivial (by rw [← hq, show 16 - s = (16 - (s + 1)) + 1 by omega]; unfold mfL; rw [if_pos ⟨b2n_ne0 n32, n38⟩]) rfl
  refine j_aload_n EE 0 dX0_minimalSet_0 rfl rfl ?_
  refine j_get (T := TX0) EE iw_X0_minimalSet_X0 0 rfl rfl 1 (by decide) lk_X0_minimalSet_13 rfl dX0_minimalSet_1 ?_
  refine j_iload_n EE 1 dX0_minimalSet_4 rfl rfl ?_
  refine j_iload_n EE 2 dX0_minimalSet_5 rfl rfl ?_
  refine j_S2 (n9 := 5) EE (c_X4_of p y (by omega) (by omega)) gX0_minimalSet_X4_of hd_X4_of rfl ⟨rfl, rfl⟩ ⟨by decide, by decide⟩ rfl [] rfl [0, 1, 2, 3, 4] [(a, .inr (0, [.ref (b), .ref (fa), .ref (fc), .int (nI ro), .int (nI sl)])), (b, .inr (1, [.int (nI P), .int (nI Y), .int (nI o), .int (nI t), .int (nI n), .ref (rb), .int (nI q), .long (lN S), .int (nI h)])), (rb, .inl (cI, 16, .inl (fun zz => nI (F zz)))), (fa, .inl (cI, 16, .inl (fun zz => nI (A zz)))), (fc, .inl (cI, 16, .inl (fun zz => nI (C zz))))] (fun _ => rfl) [(a, .inr (0, [.ref (b), .ref (fa), .ref (fc), .int (nI ro), .int (nI sl)])), (b, .inr (1, [.int (nI P), .int (nI Y), .int (nI o), .int (nI t), .int (nI n), .ref (rb), .int (nI q), .long (lN S), .int (nI h)])), (rb, .inl (cI, 16, .inl (fun zz => nI (F zz)))), (fa, .inl (cI, 16, .inl (fun zz => nI (A zz)))), (fc, .inl (cI, 16, .inl (fun zz => nI (C zz))))] [a, b, rb, fa, fc] rfl rfl rfl rfl rfl (by decide) (by decide) rfl (Nat.le_of_ble_eq_true rfl) dX0_minimalSet_6 (fun u_6 h_6 => ?_) rfl
  show J l _ D ε _ _ _ (.int (nI (p + 4 * y)) :: _)
  refine j_iald EE 3 0 rfl rfl (vp_in_nI (n := p + 4 * y) (by omega) (by decide)) dX0_minimalSet_9 ?_
  refine j_topE (congrArg (fun zz => nI (A zz)) (nI_clamp (n := p + 4 * y) (by omega))) ?_
  refine j_topE (y := nI (A (p + 4 * y))) rfl ?_
  refine j_istore EE [(4, _), (0, _), (1, _), (2, _), (3, _)] dX0_minimalSet_10 (Nat.lt_of_lt_of_eq (by decide) hL.symm) rfl ?_
  refine j_iconst (v := nI 0) EE dX0_minimalSet_12 (by decide) ?_
  refine j_istore EE [(5, _), (4, _), (0, _), (1, _), (2, _), (3, _)] dX0_minimalSet_13 (Nat.lt_of_lt_of_eq (by decide) hL.symm) rfl ?_
  refine j_iconst (v := nI 0) EE dX0_minimalSet_15 (by decide) ?_
  refine j_istore EE [(6, _), (5, _), (4, _), (0, _), (1, _), (2, _), (3, _)] dX0_minimalSet_16 (Nat.lt_of_lt_of_eq (by decide) hL.symm) rfl ?_
  exact Lp_18 _ 0 (Nat.lt_succ_self _) (by omega) rfl

theorem iw_X0_begin_X0 : ∀ w ∈ wsX00, w ∈ wsX0_begin := fun _ h => List.mem_cons_of_mem _ (List.mem_append_left _ (List.mem_append_right _ h))
theorem lk_X0_begin_24 : Cond.fieldLink RX0 24 (TX0 0).1 (TX0 0).2.1 (TX0 0).2.2.1 ∈ wsX0_begin := List.mem_of_getElem? (i := 4) rfl
theorem iw_X0_begin_X1 : ∀ w ∈ wsX10, w ∈ wsX0_begin := fun _ h => List.mem_cons_of_mem _ (List.mem_append_right _ h)
theorem lk_X0_begin_37 : Cond.fieldLink RX0 37 (TX1 0).1 (TX1 0).2.1 (TX1 0).2.2.1 ∈ wsX0_begin := List.mem_of_getElem? (i := 6) rfl
theorem lk_X0_begin_13 : Cond.fieldLink RX0 13 (TX0 1).1 (TX0 1).2.1 (TX0 1).2.2.1 ∈ wsX0_begin := List.mem_of_getElem? (i := 2) rfl
theorem lk_X0_begin_44 : Cond.fieldLink RX0 44 (TX1 3).1 (TX1 3).2.1 (TX1 3).2.2.1 ∈ wsX0_begin := List.mem_of_getElem? (i := 7) rfl
theorem mw_X0_begin_iX9 : Cond.initialized RX9 ∈ wsX0_begin := List.mem_of_getElem? (i := 14) rfl
theorem mw_X0_begin_s_X9_bit : Cond.static yX9_bit ∈ wsX0_begin := List.mem_of_getElem? (i := 13) rfl
theorem mw_X0_begin_c50 : Cond.constant RX0 50 (65535) ∈ wsX0_begin := List.mem_of_getElem? (i := 8) rfl
theorem lk_X0_begin_32 : Cond.fieldLink RX0 32 (TX1 1).1 (TX1 1).2.1 (TX1 1).2.2.1 ∈ wsX0_begin := List.mem_of_getElem? (i := 5) rfl
theorem lk_X0_begin_17 : Cond.fieldLink RX0 17 (TX0 2).1 (TX0 2).2.1 (TX0 2).2.2.1 ∈ wsX0_begin := List.mem_of_getElem? (i := 3) rfl
theorem lk_X0_begin_28 : Cond.fieldLink RX0 28 (TX0 3).1 (TX0 3).2.1 (TX0 3).2.2.1 ∈ wsX0_begin := List.mem_of_getElem? (i := 1) rfl
set_option maxHeartbeats 4000000 in
set_option maxRecDepth 100000 in
theorem c_X0_begin (a b rb fa fc P Y o t n q S h ro sl : Nat) (F A C : Nat → Nat) (ht : t < 16) (hP : P ≤ 4) (hY : Y ≤ 3) : Ct l yX0_begin wsX0_begin (rmD (1)) D [(cI, .int), (cC, .char), (cJ, .long), (cG, .object "PushdownGameSolver$Game")] [.ref (a)] [(a, .inr (0, [.ref (b), .ref (fa), .ref (fc), .int (nI ro), .int (nI sl)])), (b, .inr (1, [.int (nI P), .int (nI Y), .int (nI o), .int (nI t), .int (nI n), .ref (rb), .int (nI q), .long (lN S), .int (nI h)])), (rb, .inl (cI, 16, .inl (fun zz => nI (F zz)))), (fa, .inl (cI, 16, .inl (fun zz => nI (A zz)))), (fc, .inl (cI, 16, .inl (fun zz => nI (C zz))))] (S := Unit) (fun _ => True) (fun _ => none) (fun _ => [(a, .inr (0, [.ref (b), .ref (fa), .ref (fc), .int (nI 0), .int (nI sl)])), (b, .inr (1, [.int (nI P), .int (nI Y), .int (nI o), .int (nI t), .int (nI n), .ref (rb), .int (nI q), .long (lN S), .int (nI h)])), (rb, .inl (cI, 16, .inl (fun zz => nI (F zz)))), (fa, .inl (cI, 16, .inl (fun zz => nI ((bgA t P A Y 0) zz)))), (fc, .inl (cI, 16, .inl (fun zz => nI ((bgZ C 16) zz))))]) := by
  refine Ct.of (lv := [(0, .ref (a))]) (by decide) rfl (Nat.le_of_ble_eq_true rfl) rfl ?_
  intro ε hL EE FF
  have Lp_35 : ∀ (nf : Nat), ∀ (y : Nat), 4 - y < nf → (y ≤ Y) → J l (rmD (1)) D ε [(a, .inr (0, [.ref (b), .ref (fa), .ref (fc), .int (nI 0), .int (nI sl)])), (b, .inr (1, [.int (nI P), .int (nI Y), .int (nI o), .int (nI t), .int (nI n), .ref (rb), .int (nI q), .long (lN S), .int (nI h)])), (rb, .inl (cI, 16, .inl (fun zz => nI (F zz)))), (fa, .inl (cI, 16, .inl (fun zz => nI ((bgA t P A y 0) zz)))), (fc, .inl (cI, 16, .inl (fun zz => nI ((bgZ C 16) zz))))] 35 [(1, .int (nI y)), (0, .ref (a))] [] := by
    intro nf
    induction nf with
    | zero => intro y hm; exact absurd hm (Nat.not_lt_zero _)
    | succ nf ihp_35 =>
      intro y hm35 hy
      have Lp_48 : ∀ (nf : Nat), ∀ (p : Nat), 4 - p < nf → (p ≤ P) → (y < Y) → J l (rmD (1)) D ε [(a, .inr (0, [.ref (b), .ref (fa), .ref (fc), .int (nI 0), .int (nI sl)])), (b, .inr (1, [.int (nI P), .int (nI Y), .int (nI o), .int (nI t), .int (nI n), .ref (rb), .int (nI q), .long (lN S), .int (nI h)])), (rb, .inl (cI, 16, .inl (fun zz => nI (F zz)))), (fa, .inl (cI, 16, .inl (fun zz => nI ((bgA t P A y p) zz)))), (fc, .inl (cI, 16, .inl (fun zz => nI ((bgZ C 16) zz))))] 48 [(2, .int (nI p)), (1, .int (nI y)), (0, .ref (a))] [] := by
        intro nf
        induction nf with
        | zero => intro p hm; exact absurd hm (Nat.not_lt_zero _)
        | succ nf ihp_48 =>
          intro p hm48 hp hyl
          refine j_iload_n EE 0 dX0_begin_48 rfl rfl ?_
          refine j_aload_n EE 2 dX0_begin_49 rfl rfl ?_
          refine j_get (T := TX0) EE iw_X0_begin_X0 0 rfl rfl 0 (by decide) lk_X0_begin_24 rfl dX0_begin_50 ?_
          refine j_get (T := TX1) EE iw_X0_begin_X1 1 rfl rfl 0 (by decide) lk_X0_begin_37 rfl dX0_begin_53 ?_
          refine j_icmp_ge EE 96 dX0_begin_56 (by decide) (fun c56 => ?_) (fun c56 => ?_)
          · skip
            have n56 : P ≤ p := (nI_leI (a := P) (b := p) (by omega) (by omega)).mp c56
            refine j_iinc (v := nI (y + 1)) EE 1 [(1, .int (nI (y + 1))), (2, _), (0, _)] dX0_begin_96 rfl (nI_1 y) (Nat.lt_of_lt_of_eq (by decide) hL.symm) rfl ?_
            refine j_goto EE 35 dX0_begin_99 (by decide) ?_
            refine j_lv [0, 2] rfl ?_
            rw [show p = P by omega, bgA_r hP]
            exact ihp_35 (y + 1) (by omega) (by omega)
          · skip
            have n56 : ¬ P ≤ p := fun hq => c56 ((nI_leI (a := P) (b := p) (by omega) (by omega)).mpr hq)
            refine j_aload_n EE 2 dX0_begin_59 rfl rfl ?_
            refine j_get (T := TX0) EE iw_X0_begin_X0 0 rfl rfl 1 (by decide) lk_X0_begin_13 rfl dX0_begin_60 ?_
            refine j_iload_n EE 0 dX0_begin_63 rfl rfl ?_
            refine j_iload_n EE 1 dX0_begin_64 rfl rfl ?_
            refine j_S2 (n9 := 5) EE (c_X4_of p y (by omega) (by omega)) gX0_begin_X4_of hd_X4_of rfl ⟨rfl, rfl⟩ ⟨by decide, by decide⟩ rfl [] rfl [0, 1, 2, 3, 4] [(a, .inr (0, [.ref (b), .ref (fa), .ref (fc), .int (nI 0), .int (nI sl)])), (b, .inr (1, [.int (nI P), .int (nI Y), .int (nI o), .int (nI t), .int (nI n), .ref (rb), .int (nI q), .long (lN S), .int (nI h)])), (rb, .inl (cI, 16, .inl (fun zz => nI (F zz)))), (fa, .inl (cI, 16, .inl (fun zz => nI ((bgA t P A y p) zz)))), (fc, .inl (cI, 16, .inl (fun zz => nI ((bgZ C 16) zz))))] (fun _ => rfl) [(a, .inr (0, [.ref (b), .ref (fa), .ref (fc), .int (nI 0), .int (nI sl)])), (b, .inr (1, [.int (nI P), .int (nI Y), .int (nI o), .int (nI t), .int (nI n), .ref (rb), .int (nI q), .long (lN S), .int (nI h)])), (rb, .inl (cI, 16, .inl (fun zz => nI (F zz)))), (fa, .inl (cI, 16, .inl (fun zz => nI ((bgA t P A y p) zz)))), (fc, .inl (cI, 16, .inl (fun zz => nI ((bgZ C 16) zz))))] [a, b, rb, fa, fc] rfl rfl rfl rfl rfl (by decide) (by decide) rfl (Nat.le_of_ble_eq_true rfl) dX0_begin_65 (fun u_65 h_65 => ?_) rfl
            show J l _ D ε _ _ _ (.int (nI (p + 4 * y)) :: _)
            refine j_aload_n EE 2 dX0_begin_68 rfl rfl ?_
            refine j_get (T := TX0) EE iw_X0_begin_X0 0 rfl rfl 0 (by decide) lk_X0_begin_24 rfl dX0_begin_69 ?_
            refine j_get (T := TX1) EE iw_X0_begin_X1 1 rfl rfl 3 (by decide) lk_X0_begin_44 rfl dX0_begin_72 ?_
            refine j_iload_n EE 0 dX0_begin_75 rfl rfl ?_
            refine j_SN2 (n9 := 5) EE (c_X9_bit t p (by omega) (by omega)) gX0_begin_X9_bit_n47 hd_X9_bit (by decide) mw_X0_begin_iX9 mw_X0_begin_s_X9_bit rfl ⟨rfl, rfl⟩ ⟨by decide, by decide⟩ rfl [] rfl [0, 1, 2, 3, 4] [(a, .inr (0, [.ref (b), .ref (fa), .ref (fc), .int (nI 0), .int (nI sl)])), (b, .inr (1, [.int (nI P), .int (nI Y), .int (nI o), .int (nI t), .int (nI n), .ref (rb), .int (nI q), .long (lN S), .int (nI h)])), (rb, .inl (cI, 16, .inl (fun zz => nI (F zz)))), (fa, .inl (cI, 16, .inl (fun zz => nI ((bgA t P A y p) zz)))), (fc, .inl (cI, 16, .inl (fun zz => nI ((bgZ C 16) zz))))] (fun _ => rfl) [(a, .inr (0, [.ref (b), .ref (fa), .ref (fc), .int (nI 0), .int (nI sl)])), (b, .inr (1, [.int (nI P), .int (nI Y), .int (nI o), .int (nI t), .int (nI n), .ref (rb), .int (nI q), .long (lN S), .int (nI h)])), (rb, .inl (cI, 16, .inl (fun zz => nI (F zz)))), (fa, .inl (cI, 16, .inl (fun zz => nI ((bgA t P A y p) zz)))), (fc, .inl (cI, 16, .inl (fun zz => nI ((bgZ C 16) zz))))] [a, b, rb, fa, fc] rfl rfl rfl rfl rfl (by decide) (by decide) rfl (Nat.le_of_ble_eq_true rfl) dX0_begin_76 (fun u_76 h_76 => ?_) rfl
            show J l _ D ε _ _ _ (.int (nI (bt t p)) :: _)
            refine j_iconst (v := nI 1) EE dX0_begin_79 (by decide) ?_
            refine j_icmp_ne EE 88 dX0_begin_80 (by decide) (fun c80 => ?_) (fun c80 => ?_)
            · skip
              have n80 : (bt t p) ≠ 1 := fun hq => c80 ((nI_eq (a := (bt t p)) (b := 1) (by have := bt_lt t p; omega) (by have := bt_lt t p; omega)).mpr hq)
              refine j_iconst (v := nI 0) EE dX0_begin_88 (by decide) ?_
              refine j_iast (ws' := [(a, .inr (0, [.ref (b), .ref (fa), .ref (fc), .int (nI 0), .int (nI sl)])), (b, .inr (1, [.int (nI P), .int (nI Y), .int (nI o), .int (nI t), .int (nI n), .ref (rb), .int (nI q), .long (lN S), .int (nI h)])), (rb, .inl (cI, 16, .inl (fun zz => nI (F zz)))), (fa, .inl (cI, 16, .inl (fun zz => nI ((bgA t P A y (p + 1)) zz)))), (fc, .inl (cI, 16, .inl (fun zz => nI ((bgZ C 16) zz))))]) EE 3 0 rfl rfl (vp_in_nI (n := p + 4 * y) (by omega) (by decide)) (by rw [nI_clamp (by omega), upd_N, bgA_s (by omega) hP (by omega) (by first | rw [if_pos n80] | rw [if_neg n80])]; rfl) dX0_begin_89 ?_
              refine j_iinc (v := nI (p + 1)) EE 0 [(2, .int (nI (p + 1))), (1, _), (0, _)] dX0_begin_90 rfl (nI_1 p) (Nat.lt_of_lt_of_eq (by decide) hL.symm) rfl ?_
              refine j_goto EE 48 dX0_begin_93 (by decide) ?_
              exact ihp_48 (p + 1) (by omega) (by omega) hyl
            · skip
              have n80 : (bt t p) = 1 := (nI_eq (a := (bt t p)) (b := 1) (by have := bt_lt t p; omega) (by have := bt_lt t p; omega)).mp c80
              refine j_ldc EE mw_X0_begin_c50 dX0_begin_83 ?_
              refine j_topE (y := nI 65535) (by decide) ?_
              refine j_goto EE 89 dX0_begin_85 (by decide) ?_
              refine j_iast (ws' := [(a, .inr (0, [.ref (b), .ref (fa), .ref (fc), .int (nI 0), .int (nI sl)])), (b, .inr (1, [.int (nI P), .int (nI Y), .int (nI o), .int (nI t), .int (nI n), .ref (rb), .int (nI q), .long (lN S), .int (nI h)])), (rb, .inl (cI, 16, .inl (fun zz => nI (F zz)))), (fa, .inl (cI, 16, .inl (fun zz => nI ((bgA t P A y (p + 1)) zz)))), (fc, .inl (cI, 16, .inl (fun zz => nI ((bgZ C 16) zz))))]) EE 3 0 rfl rfl (vp_in_nI (n := p + 4 * y) (by omega) (by decide)) (by rw [nI_clamp (by omega), upd_N, bgA_s (by omega) hP (by omega) (by first | rw [if_pos n80] | rw [if_neg n80])]; rfl) dX0_begin_89 ?_
              refine j_iinc (v := nI (p + 1)) EE 0 [(2, .int (nI (p + 1))), (1, _), (0, _)] dX0_begin_90 rfl (nI_1 p) (Nat.lt_of_lt_of_eq (by decide) hL.symm) rfl ?_
              refine j_goto EE 48 dX0_begin_93 (by decide) ?_
              exact ihp_48 (p + 1) (by omega) (by omega) hyl
      refine j_iload_n EE 0 dX0_begin_35 rfl rfl ?_
      refine j_aload_n EE 1 dX0_begin_36 rfl rfl ?_
      refine j_get (T := TX0) EE iw_X0_begin_X0 0 rfl rfl 0 (by decide) lk_X0_begin_24 rfl dX0_begin_37 ?_
      refine j_get (T := TX1) EE iw_X0_begin_X1 1 rfl rfl 1 (by decide) lk_X0_begin_32 rfl dX0_begin_40 ?_
      refine j_icmp_ge EE 102 dX0_begin_43 (by decide) (fun c43 => ?_) (fun c43 => ?_)
      · skip
        have n43 : Y ≤ y := (nI_leI (a := Y) (b := y) (by omega) (by omega)).mp c43
        exact j_vret EE FF dX0_begin_102 () trivial rfl (by rw [show Y = y by omega])
      · skip
        have n43 : ¬ Y ≤ y := fun hq => c43 ((nI_leI (a := Y) (b := y) (by omega) (by omega)).mpr hq)
        refine j_iconst (v := nI 0) EE dX0_begin_46 (by decide) ?_
        refine j_istore_n EE [(2, _), (1, _), (0, _)] dX0_begin_47 rfl (Nat.lt_of_lt_of_eq (by decide) hL.symm) rfl ?_
        exact Lp_48 _ 0 (Nat.lt_succ_self _) (by omega) (by omega)
  have Lp_7 : ∀ (nf : Nat), ∀ (i : Nat), 16 - i < nf → (i ≤ 16) → J l (rmD (1)) D ε [(a, .inr (0, [.ref (b), .ref (fa), .ref (fc), .int (nI 0), .int (nI sl)])), (b, .inr (1, [.int (nI P), .int (nI Y), .int (nI o), .int (nI t), .int (nI n), .ref (rb), .int (nI q), .long (lN S), .int (nI h)])), (rb, .inl (cI, 16, .inl (fun zz => nI (F zz)))), (fa, .inl (cI, 16, .inl (fun zz => nI ((bgZ A i) zz)))), (fc, .inl (cI, 16, .inl (fun zz => nI ((bgZ C i) zz))))] 7 [(1, .int (nI i)), (0, .ref (a))] [] := by
    intro nf
    induction nf with
    | zero => intro i hm; exact absurd hm (Nat.not_lt_zero _)
    | succ nf ihp_7 =>
      intro i hm7 hi
      refine j_iload_n EE 0 dX0_begin_7 rfl rfl ?_
      refine j_bipush (v := nI 16) EE dX0_begin_8 (by decide) ?_
      refine j_icmp_ge EE 33 dX0_begin_10 (by decide) (fun c10 => ?_) (fun c10 => ?_)
      · skip
        have n10 : 16 ≤ i := (nI_leI (a := 16) (b := i) (by omega) (by omega)).mp c10
        refine j_iconst (v := nI 0) EE dX0_begin_33 (by decide) ?_
        refine j_istore_n EE [(1, _), (0, _)] dX0_begin_34 rfl (Nat.lt_of_lt_of_eq (by decide) hL.symm) rfl ?_
        rw [show i = 16 by omega, bgA_0 t P A]
        exact Lp_35 _ 0 (Nat.lt_succ_self _) (by omega)
      · skip
        have n10 : ¬ 16 ≤ i := fun hq => c10 ((nI_leI (a := 16) (b := i) (by omega) (by omega)).mpr hq)
        refine j_aload_n EE 1 dX0_begin_13 rfl rfl ?_
        refine j_get (T := TX0) EE iw_X0_begin_X0 0 rfl rfl 1 (by decide) lk_X0_begin_13 rfl dX0_begin_14 ?_
        refine j_iload_n EE 0 dX0_begin_17 rfl rfl ?_
        refine j_iconst (v := nI 0) EE dX0_begin_18 (by decide) ?_
        refine j_iast (ws' := [(a, .inr (0, [.ref (b), .ref (fa), .ref (fc), .int (nI 0), .int (nI sl)])), (b, .inr (1, [.int (nI P), .int (nI Y), .int (nI o), .int (nI t), .int (nI n), .ref (rb), .int (nI q), .long (lN S), .int (nI h)])), (rb, .inl (cI, 16, .inl (fun zz => nI (F zz)))), (fa, .inl (cI, 16, .inl (fun zz => nI ((bgZ A (i + 1)) zz)))), (fc, .inl (cI, 16, .inl (fun zz => nI ((bgZ C i) zz))))]) EE 3 0 rfl rfl (vp_in_nI (n := i) (by omega) (by decide)) (by rw [nI_clamp (by omega), upd_N, bgZ_s]; rfl) dX0_begin_19 ?_
        refine j_aload_n EE 1 dX0_begin_20 rfl rfl ?_
        refine j_get (T := TX0) EE iw_X0_begin_X0 0 rfl rfl 2 (by decide) lk_X0_begin_17 rfl dX0_begin_21 ?_
        refine j_iload_n EE 0 dX0_begin_24 rfl rfl ?_
        refine j_iconst (v := nI 0) EE dX0_begin_25 (by decide) ?_
        refine j_iast (ws' := [(a, .inr (0, [.ref (b), .ref (fa), .ref (fc), .int (nI 0), .int (nI sl)])), (b, .inr (1, [.int (nI P), .int (nI Y), .int (nI o), .int (nI t), .int (nI n), .ref (rb), .int (nI q), .long (lN S), .int (nI h)])), (rb, .inl (cI, 16, .inl (fun zz => nI (F zz)))), (fa, .inl (cI, 16, .inl (fun zz => nI ((bgZ A (i + 1)) zz)))), (fc, .inl (cI, 16, .inl (fun zz => nI ((bgZ C (i + 1)) zz))))]) EE 4 0 rfl rfl (vp_in_nI (n := i) (by omega) (by decide)) (by rw [nI_clamp (by omega), upd_N, bgZ_s]; rfl) dX0_begin_26 ?_
        refine j_iinc (v := nI (i + 1)) EE 0 [(1, .int (nI (i + 1))), (0, _)] dX0_begin_27 rfl (nI_1 i) (Nat.lt_of_lt_of_eq (by decide) hL.symm) rfl ?_
        refine j_goto EE 7 dX0_begin_30 (by decide) ?_
        exact ihp_7 (i + 1) (by omega) (by omega)
  refine j_aload_n EE 0 dX0_begin_0 rfl rfl ?_
  refine j_iconst (v := nI 0) EE dX0_begin_1 (by decide) ?_
  refine j_put (T := TX0) (ws' := [(a, .inr (0, [.ref (b), .ref (fa), .ref (fc), .int (nI 0), .int (nI sl)])), (b, .inr (1, [.int (nI P), .int (nI Y), .int (nI o), .int (nI t), .int (nI n), .ref (rb), .int (nI q), .long (lN S), .int (nI h)])), (rb, .inl (cI, 16, .inl (fun zz => nI (F zz)))), (fa, .inl (cI, 16, .inl (fun zz => nI (A zz)))), (fc, .inl (cI, 16, .inl (fun zz => nI (C zz))))]) EE iw_X0_begin_X0 tyX0 tyX0_ok nmX0 0 rfl rfl 3 (by decide) lk_X0_begin_28 rfl rfl rfl (Nat.le_of_ble_eq_true rfl) rfl dX0_begin_2 ?_
  refine j_iconst (v := nI 0) EE dX0_begin_5 (by decide) ?_
  refine j_istore_n EE [(1, _), (0, _)] dX0_begin_6 rfl (Nat.lt_of_lt_of_eq (by decide) hL.symm) rfl ?_
  have hx9 := Lp_7 _ 0 (Nat.lt_succ_self _) (by omega)
  rw [bgZ_0, bgZ_0] at hx9
  exact hx9

theorem iw_X0_advance_X0 : ∀ w ∈ wsX00, w ∈ wsX0_advance := fun _ h => List.mem_cons_of_mem _ (List.mem_append_left _ (List.mem_append_right _ h))
theorem lk_X0_advance_24 : Cond.fieldLink RX0 24 (TX0 0).1 (TX0 0).2.1 (TX0 0).2.2.1 ∈ wsX0_advance := List.mem_of_getElem? (i := 1) rfl
theorem iw_X0_advance_X1 : ∀ w ∈ wsX10, w ∈ wsX0_advance := fun _ h => List.mem_cons_of_mem _ (List.mem_append_right _ h)
theorem lk_X0_advance_37 : Cond.fieldLink RX0 37 (TX1 0).1 (TX1 0).2.1 (TX1 0).2.2.1 ∈ wsX0_advance := List.mem_of_getElem? (i := 3) rfl
theorem lk_X0_advance_17 : Cond.fieldLink RX0 17 (TX0 2).1 (TX0 2).2.1 (TX0 2).2.2.1 ∈ wsX0_advance := List.mem_of_getElem? (i := 4) rfl
theorem hd_X0_familyInNextRound : yX0_familyInNextRound.cls ≠ "java/lang/invoke/MethodHandle" ∧ yX0_familyInNextRound.cls ≠ "java/lang/invoke/VarHandle" ∧ (parseMethodDescriptor yX0_familyInNextRound.desc).map (fun d => d.parameters.length) = some 2 := by decide +kernel
theorem lk_X0_advance_13 : Cond.fieldLink RX0 13 (TX0 1).1 (TX0 1).2.1 (TX0 1).2.2.1 ∈ wsX0_advance := List.mem_of_getElem? (i := 5) rfl
theorem lk_X0_advance_32 : Cond.fieldLink RX0 32 (TX1 1).1 (TX1 1).2.1 (TX1 1).2.2.1 ∈ wsX0_advance := List.mem_of_getElem? (i := 2) rfl
theorem mw_X0_advance_ac61 : Cond.methodLink RX0 61 arraycopyName ∈ wsX0_advance := List.mem_of_getElem? (i := 6) rfl
theorem mw_X0_advance_acn : Cond.native arraycopyName ∈ wsX0_advance := List.mem_of_getElem? (i := 7) rfl
theorem mw_X0_advance_acs : Cond.static arraycopyName ∈ wsX0_advance := List.mem_of_getElem? (i := 8) rfl
theorem mw_X0_advance_aci : Cond.initialized "java/lang/System" ∈ wsX0_advance := List.mem_of_getElem? (i := 9) rfl
theorem lk_X0_advance_28 : Cond.fieldLink RX0 28 (TX0 3).1 (TX0 3).2.1 (TX0 3).2.2.1 ∈ wsX0_advance := List.mem_of_getElem? (i := 10) rfl
set_option maxHeartbeats 4000000 in
set_option maxRecDepth 100000 in
theorem c_X0_advance (a b rb fa fc P Y o t n q S h ro sl : Nat) (F A C : Nat → Nat) (ht : t < 16) (ho : o < 16) (hP : P ≤ 4) (hY : Y ≤ 3) (hn : n ≤ 16) (hF : ∀ i, F i < 1024) (hA : ∀ i, A i < 65536) (hC : ∀ i, C i < 65536) : Ct l yX0_advance wsX0_advance (rmD (4)) D [(cI, .int), (cC, .char), (cJ, .long), (cG, .object "PushdownGameSolver$Game")] [.ref (a)] [(a, .inr (0, [.ref (b), .ref (fa), .ref (fc), .int (nI ro), .int (nI sl)])), (b, .inr (1, [.int (nI P), .int (nI Y), .int (nI o), .int (nI t), .int (nI n), .ref (rb), .int (nI q), .long (lN S), .int (nI h)])), (rb, .inl (cI, 16, .inl (fun zz => nI (F zz)))), (fa, .inl (cI, 16, .inl (fun zz => nI (A zz)))), (fc, .inl (cI, 16, .inl (fun zz => nI (C zz))))] (S := Unit) (fun _ => True) (fun _ => some (.int (nI (b2n (chg o t n P A F Y 0))))) (fun _ => [(a, .inr (0, [.ref (b), .ref (fa), .ref (fc), .int (nI (ro + b2n (chg o t n P A F Y 0))), .int (nI sl)])), (b, .inr (1, [.int (nI P), .int (nI Y), .int (nI o), .int (nI t), .int (nI n), .ref (rb), .int (nI q), .long (lN S), .int (nI h)])), (rb, .inl (cI, 16, .inl (fun zz => nI (F zz)))), (fa, .inl (cI, 16, .inl (fun zz => nI ((adA o t n P Y A C F) zz)))), (fc, .inl (cI, 16, .inl (fun zz => nI ((cmg o t n P A C F Y 0) zz))))]) := by
  refine Ct.of (lv := [(0, .ref (a))]) (by decide) rfl (Nat.le_of_ble_eq_true rfl) rfl ?_
  intro ε hL EE FF
  have Lp_4 : ∀ (nf : Nat), ∀ (y : Nat), 4 - y < nf → (y ≤ Y) → J l (rmD (4)) D ε [(a, .inr (0, [.ref (b), .ref (fa), .ref (fc), .int (nI ro), .int (nI sl)])), (b, .inr (1, [.int (nI P), .int (nI Y), .int (nI o), .int (nI t), .int (nI n), .ref (rb), .int (nI q), .long (lN S), .int (nI h)])), (rb, .inl (cI, 16, .inl (fun zz => nI (F zz)))), (fa, .inl (cI, 16, .inl (fun zz => nI (A zz)))), (fc, .inl (cI, 16, .inl (fun zz => nI ((cmg o t n P A C F y 0) zz))))] 4 [(2, .int (nI y)), (1, .int (nI (b2n (chg o t n P A F y 0)))), (0, .ref (a))] [] := by
    intro nf
    induction nf with
    | zero => intro y hm; exact absurd hm (Nat.not_lt_zero _)
    | succ nf ihp_4 =>
      intro y hm4 hy
      have Lp_17 : ∀ (nf : Nat), ∀ (p : Nat), 4 - p < nf → (p ≤ P) → (y < Y) → J l (rmD (4)) D ε [(a, .inr (0, [.ref (b), .ref (fa), .ref (fc), .int (nI ro), .int (nI sl)])), (b, .inr (1, [.int (nI P), .int (nI Y), .int (nI o), .int (nI t), .int (nI n), .ref (rb), .int (nI q), .long (lN S), .int (nI h)])), (rb, .inl (cI, 16, .inl (fun zz => nI (F zz)))), (fa, .inl (cI, 16, .inl (fun zz => nI (A zz)))), (fc, .inl (cI, 16, .inl (fun zz => nI ((cmg o t n P A C F y p) zz))))] 17 [(3, .int (nI p)), (2, .int (nI y)), (1, .int (nI (b2n (chg o t n P A F y p)))), (0, .ref (a))] [] := by
        intro nf
        induction nf with
        | zero => intro p hm; exact absurd hm (Nat.not_lt_zero _)
        | succ nf ihp_17 =>
          intro p hm17 hp hyl
          refine j_iload_n EE 0 dX0_advance_17 rfl rfl ?_
          refine j_aload_n EE 3 dX0_advance_18 rfl rfl ?_
          refine j_get (T := TX0) EE iw_X0_advance_X0 0 rfl rfl 0 (by decide) lk_X0_advance_24 rfl dX0_advance_19 ?_
          refine j_get (T := TX1) EE iw_X0_advance_X1 1 rfl rfl 0 (by decide) lk_X0_advance_37 rfl dX0_advance_22 ?_
          refine j_icmp_ge EE 82 dX0_advance_25 (by decide) (fun c25 => ?_) (fun c25 => ?_)
          · skip
            have n25 : P ≤ p := (nI_leI (a := P) (b := p) (by omega) (by omega)).mp c25
            refine j_iinc (v := nI (y + 1)) EE 1 [(2, .int (nI (y + 1))), (3, _), (1, _), (0, _)] dX0_advance_82 rfl (nI_1 y) (Nat.lt_of_lt_of_eq (by decide) hL.symm) rfl ?_
            refine j_goto EE 4 dX0_advance_85 (by decide) ?_
            refine j_lv [0, 2, 3] rfl ?_
            rw [show p = P by omega, cmg_r hP, chg_r hP]
            exact ihp_4 (y + 1) (by omega) (by omega)
          · skip
            have n25 : ¬ P ≤ p := fun hq => c25 ((nI_leI (a := P) (b := p) (by omega) (by omega)).mpr hq)
            refine j_iload_n EE 0 dX0_advance_28 rfl rfl ?_
            refine j_iload_n EE 1 dX0_advance_29 rfl rfl ?_
            refine j_S2 (n9 := 5) EE (c_X4_of p y (by omega) (by omega)) gX0_advance_X4_of hd_X4_of rfl ⟨rfl, rfl⟩ ⟨by decide, by decide⟩ rfl [] rfl [0, 1, 2, 3, 4] [(a, .inr (0, [.ref (b), .ref (fa), .ref (fc), .int (nI ro), .int (nI sl)])), (b, .inr (1, [.int (nI P), .int (nI Y), .int (nI o), .int (nI t), .int (nI n), .ref (rb), .int (nI q), .long (lN S), .int (nI h)])), (rb, .inl (cI, 16, .inl (fun zz => nI (F zz)))), (fa, .inl (cI, 16, .inl (fun zz => nI (A zz)))), (fc, .inl (cI, 16, .inl (fun zz => nI ((cmg o t n P A C F y p) zz))))] (fun _ => rfl) [(a, .inr (0, [.ref (b), .ref (fa), .ref (fc), .int (nI ro), .int (nI sl)])), (b, .inr (1, [.int (nI P), .int (nI Y), .int (nI o), .int (nI t), .int (nI n), .ref (rb), .int (nI q), .long (lN S), .int (nI h)])), (rb, .inl (cI, 16, .inl (fun zz => nI (F zz)))), (fa, .inl (cI, 16, .inl (fun zz => nI (A zz)))), (fc, .inl (cI, 16, .inl (fun zz => nI ((cmg o t n P A C F y p) zz))))] [a, b, rb, fa, fc] rfl rfl rfl rfl rfl (by decide) (by decide) rfl (Nat.le_of_ble_eq_true rfl) dX0_advance_30 (fun u_30 h_30 => ?_) rfl
            show J l _ D ε _ _ _ (.int (nI (p + 4 * y)) :: _)
            refine j_istore EE [(4, _), (3, _), (2, _), (1, _), (0, _)] dX0_advance_33 (Nat.lt_of_lt_of_eq (by decide) hL.symm) rfl ?_
            refine j_aload_n EE 4 dX0_advance_35 rfl rfl ?_
            refine j_get (T := TX0) EE iw_X0_advance_X0 0 rfl rfl 2 (by decide) lk_X0_advance_17 rfl dX0_advance_36 ?_
            refine j_iload EE 0 dX0_advance_39 rfl ?_
            refine j_aload_n EE 4 dX0_advance_41 rfl rfl ?_
            refine j_iload_n EE 1 dX0_advance_42 rfl rfl ?_
            refine j_iload EE 0 dX0_advance_43 rfl ?_
            refine j_V2 (n9 := 5) EE (c_X0_familyInNextRound a b rb fa fc P Y o t n q S h ro sl F A (cmg o t n P A C F y p) p (p + 4 * y) (by omega) (by omega) (by omega) (by omega) (by omega) hF hA) gX0_advance_X0_familyInNextRound ⟨rfl, hd_X0_familyInNextRound⟩ rfl ⟨rfl, rfl⟩ ⟨by decide, by decide⟩ rfl [0, 1, 2, 3, 4] rfl [] [(a, .inr (0, [.ref (b), .ref (fa), .ref (fc), .int (nI ro), .int (nI sl)])), (b, .inr (1, [.int (nI P), .int (nI Y), .int (nI o), .int (nI t), .int (nI n), .ref (rb), .int (nI q), .long (lN S), .int (nI h)])), (rb, .inl (cI, 16, .inl (fun zz => nI (F zz)))), (fa, .inl (cI, 16, .inl (fun zz => nI (A zz)))), (fc, .inl (cI, 16, .inl (fun zz => nI ((cmg o t n P A C F y p) zz))))] (fun _ => rfl) [] [a, b, rb, fa, fc] rfl rfl rfl rfl rfl (by decide) (by decide) 0 rfl rfl rfl (Nat.le_of_ble_eq_true rfl) dX0_advance_45 (fun u_45 h_45 => ?_) rfl
            show J l _ D ε _ _ _ (.int (nI (fNx o t n A F p (p + 4 * y))) :: _)
            refine j_iast (ws' := [(a, .inr (0, [.ref (b), .ref (fa), .ref (fc), .int (nI ro), .int (nI sl)])), (b, .inr (1, [.int (nI P), .int (nI Y), .int (nI o), .int (nI t), .int (nI n), .ref (rb), .int (nI q), .long (lN S), .int (nI h)])), (rb, .inl (cI, 16, .inl (fun zz => nI (F zz)))), (fa, .inl (cI, 16, .inl (fun zz => nI (A zz)))), (fc, .inl (cI, 16, .inl (fun zz => nI ((cmg o t n P A C F y (p + 1)) zz))))]) EE 4 0 rfl rfl (vp_in_nI (n := p + 4 * y) (by omega) (by decide)) (by rw [nI_clamp (by omega), upd_N, cmg_s (by omega) hP]; rfl) dX0_advance_48 ?_
            refine j_iload_n EE 3 dX0_advance_49 rfl rfl ?_
            refine j_if_ne EE 70 dX0_advance_50 (by decide) (fun c50 => ?_) (fun c50 => ?_)
            · skip
              have n50 : (b2n (chg o t n P A F y p)) ≠ 0 := fun hq => c50 ((nI_eq (a := (b2n (chg o t n P A F y p))) (b := 0) (by have := b2n_lt (chg o t n P A F y p); omega) (by have := b2n_lt (chg o t n P A F y p); omega)).mpr hq)
              refine j_iconst (v := nI 1) EE dX0_advance_70 (by decide) ?_
              refine j_goto EE 75 dX0_advance_71 (by decide) ?_
              refine j_istore_n EE [(1, _), (4, _), (3, _), (2, _), (0, _)] dX0_advance_75 rfl (Nat.lt_of_lt_of_eq (by decide) hL.symm) rfl ?_
              refine j_iinc (v := nI (p + 1)) EE 2 [(3, .int (nI (p + 1))), (1, _), (4, _), (2, _), (0, _)] dX0_advance_76 rfl (nI_1 p) (Nat.lt_of_lt_of_eq (by decide) hL.symm) rfl ?_
              refine j_goto EE 17 dX0_advance_79 (by decide) ?_
              refine j_lv [0, 3, 1, 4] rfl ?_
              first | rw [show nI 1 = nI (b2n (chg o t n P A F y (p + 1))) by rw [chg_t (b2n_ne0 n50)]; rfl] | rw [show nI 1 = nI (b2n (chg o t n P A F y (p + 1))) by rw [chg_n (by omega) hP (by omega) n67]; rfl] | rw [show nI 0 = nI (b2n (chg o t n P A F y (p + 1))) by rw [chg_k (by omega) hP (by omega) (b2n_0 n50) n67]; rfl]
              exact ihp_17 (p + 1) (by omega) (by omega) hyl
            · skip
              have n50 : (b2n (chg o t n P A F y p)) = 0 := (nI_eq (a := (b2n (chg o t n P A F y p))) (b := 0) (by have := b2n_lt (chg o t n P A F y p); omega) (by have := b2n_lt (chg o t n P A F y p); omega)).mp c50
              refine j_aload_n EE 4 dX0_advance_53 rfl rfl ?_
              refine j_get (T := TX0) EE iw_X0_advance_X0 0 rfl rfl 2 (by decide) lk_X0_advance_17 rfl dX0_advance_54 ?_
              refine j_iload EE 0 dX0_advance_57 rfl ?_
              refine j_iald EE 4 0 rfl rfl (vp_in_nI (n := p + 4 * y) (by omega) (by decide)) dX0_advance_59 ?_
              refine j_topE (congrArg (fun zz => nI ((cmg o t n P A C F y (p + 1)) zz)) (nI_clamp (n := p + 4 * y) (by omega))) ?_
              refine j_topE (y := nI (fNx o t n A F p (p + 4 * y))) (by unfold cmg; rw [if_pos (by omega), show (p + 4 * y) % 4 = p by omega]) ?_
              refine j_aload_n EE 4 dX0_advance_60 rfl rfl ?_
              refine j_get (T := TX0) EE iw_X0_advance_X0 0 rfl rfl 1 (by decide) lk_X0_advance_13 rfl dX0_advance_61 ?_
              refine j_iload EE 0 dX0_advance_64 rfl ?_
              refine j_iald EE 3 0 rfl rfl (vp_in_nI (n := p + 4 * y) (by omega) (by decide)) dX0_advance_66 ?_
              refine j_topE (congrArg (fun zz => nI (A zz)) (nI_clamp (n := p + 4 * y) (by omega))) ?_
              refine j_topE (y := nI (A (p + 4 * y))) rfl ?_
              refine j_icmp_eq EE 74 dX0_advance_67 (by decide) (fun c67 => ?_) (fun c67 => ?_)
              · skip
                have n67 : (fNx o t n A F p (p + 4 * y)) = (A (p + 4 * y)) := (nI_eq (a := (fNx o t n A F p (p + 4 * y))) (b := (A (p + 4 * y))) (by have := fNx_lt (o := o) (t := t) (n := n) (F := F) (p := p) (pr := p + 4 * y) hA; have := hA (p + 4 * y); omega) (by have := fNx_lt (o := o) (t := t) (n := n) (F := F) (p := p) (pr := p + 4 * y) hA; have := hA (p + 4 * y); omega)).mp c67
                refine j_iconst (v := nI 0) EE dX0_advance_74 (by decide) ?_
                refine j_istore_n EE [(1, _), (4, _), (3, _), (2, _), (0, _)] dX0_advance_75 rfl (Nat.lt_of_lt_of_eq (by decide) hL.symm) rfl ?_
                refine j_iinc (v := nI (p + 1)) EE 2 [(3, .int (nI (p + 1))), (1, _), (4, _), (2, _), (0, _)] dX0_advance_76 rfl (nI_1 p) (Nat.lt_of_lt_of_eq (by decide) hL.symm) rfl ?_
                refine j_goto EE 17 dX0_advance_79 (by decide) ?_
                refine j_lv [0, 3, 1, 4] rfl ?_
                first | rw [show nI 1 = nI (b2n (chg o t n P A F y (p + 1))) by rw [chg_t (b2n_ne0 n50)]; rfl] | rw [show nI 1 = nI (b2n (chg o t n P A F y (p + 1))) by rw [chg_n (by omega) hP (by omega) n67]; rfl] | rw [show nI 0 = nI (b2n (chg o t n P A F y (p + 1))) by rw [chg_k (by omega) hP (by omega) (b2n_0 n50) n67]; rfl]
                exact ihp_17 (p + 1) (by omega) (by omega) hyl
              · skip
                have n67 : (fNx o t n A F p (p + 4 * y)) ≠ (A (p + 4 * y)) := fun hq => c67 ((nI_eq (a := (fNx o t n A F p (p + 4 * y))) (b := (A (p + 4 * y))) (by have := fNx_lt (o := o) (t := t) (n := n) (F := F) (p := p) (pr := p + 4 * y) hA; have := hA (p + 4 * y); omega) (by have := fNx_lt (o := o) (t := t) (n := n) (F := F) (p := p) (pr := p + 4 * y) hA; have := hA (p + 4 * y); omega)).mpr hq)
                refine j_iconst (v := nI 1) EE dX0_advance_70 (by decide) ?_
                refine j_goto EE 75 dX0_advance_71 (by decide) ?_
                refine j_istore_n EE [(1, _), (4, _), (3, _), (2, _), (0, _)] dX0_advance_75 rfl (Nat.lt_of_lt_of_eq (by decide) hL.symm) rfl ?_
                refine j_iinc (v := nI (p + 1)) EE 2 [(3, .int (nI (p + 1))), (1, _), (4, _), (2, _), (0, _)] dX0_advance_76 rfl (nI_1 p) (Nat.lt_of_lt_of_eq (by decide) hL.symm) rfl ?_
                refine j_goto EE 17 dX0_advance_79 (by decide) ?_
                refine j_lv [0, 3, 1, 4] rfl ?_
                first | rw [show nI 1 = nI (b2n (chg o t n P A F y (p + 1))) by rw [chg_t (b2n_ne0 n50)]; rfl] | rw [show nI 1 = nI (b2n (chg o t n P A F y (p + 1))) by rw [chg_n (by omega) hP (by omega) n67]; rfl] | rw [show nI 0 = nI (b2n (chg o t n P A F y (p + 1))) by rw [chg_k (by omega) hP (by omega) (b2n_0 n50) n67]; rfl]
                exact ihp_17 (p + 1) (by omega) (by omega) hyl
      refine j_iload_n EE 0 dX0_advance_4 rfl rfl ?_
      refine j_aload_n EE 2 dX0_advance_5 rfl rfl ?_
      refine j_get (T := TX0) EE iw_X0_advance_X0 0 rfl rfl 0 (by decide) lk_X0_advance_24 rfl dX0_advance_6 ?_
      refine j_get (T := TX1) EE iw_X0_advance_X1 1 rfl rfl 1 (by decide) lk_X0_advance_32 rfl dX0_advance_9 ?_
      refine j_icmp_ge EE 88 dX0_advance_12 (by decide) (fun c12 => ?_) (fun c12 => ?_)
      · skip
        have n12 : Y ≤ y := (nI_leI (a := Y) (b := y) (by omega) (by omega)).mp c12
        have hyY : y = Y := by omega
        refine j_iload_n EE 1 dX0_advance_88 rfl rfl ?_
        refine j_if_eq EE 117 dX0_advance_89 (by decide) (fun c89 => ?_) (fun c89 => ?_)
        · skip
          have n89 : (b2n (chg o t n P A F y 0)) = 0 := (nI_eq (a := (b2n (chg o t n P A F y 0))) (b := 0) (by have := b2n_lt (chg o t n P A F y 0); omega) (by have := b2n_lt (chg o t n P A F y 0); omega)).mp c89
          refine j_iload_n EE 1 dX0_advance_117 rfl rfl ?_
          subst hyY
          exact j_zret EE FF (by have hb9 := b2n_lt (chg o t n P A F y 0); rcases (show b2n (chg o t n P A F y 0) = 0 ∨ b2n (chg o t n P A F y 0) = 1 by omega) with hz | hz <;> rw [hz] <;> decide) dX0_advance_118 () trivial rfl (by unfold adA; first | rw [if_pos (b2n_ne0 n89), b2n_ne0 n89]; rfl | (rw [if_neg (by rw [b2n_0 n89]; decide), b2n_0 n89]; rfl))
        · skip
          have n89 : (b2n (chg o t n P A F y 0)) ≠ 0 := fun hq => c89 ((nI_eq (a := (b2n (chg o t n P A F y 0))) (b := 0) (by have := b2n_lt (chg o t n P A F y 0); omega) (by have := b2n_lt (chg o t n P A F y 0); omega)).mpr hq)
          refine j_aload_n EE 2 dX0_advance_92 rfl rfl ?_
          refine j_get (T := TX0) EE iw_X0_advance_X0 0 rfl rfl 2 (by decide) lk_X0_advance_17 rfl dX0_advance_93 ?_
          refine j_iconst (v := nI 0) EE dX0_advance_96 (by decide) ?_
          refine j_aload_n EE 2 dX0_advance_97 rfl rfl ?_
          refine j_get (T := TX0) EE iw_X0_advance_X0 0 rfl rfl 1 (by decide) lk_X0_advance_13 rfl dX0_advance_98 ?_
          refine j_iconst (v := nI 0) EE dX0_advance_101 (by decide) ?_
          refine j_bipush (v := nI 16) EE dX0_advance_102 (by decide) ?_
          refine j_copyi (ws' := [(a, .inr (0, [.ref (b), .ref (fa), .ref (fc), .int (nI ro), .int (nI sl)])), (b, .inr (1, [.int (nI P), .int (nI Y), .int (nI o), .int (nI t), .int (nI n), .ref (rb), .int (nI q), .long (lN S), .int (nI h)])), (rb, .inl (cI, 16, .inl (fun zz => nI (F zz)))), (fa, .inl (cI, 16, .inl (fun zz => nI ((cpyN (cmg o t n P A C F y 0) A 16) zz)))), (fc, .inl (cI, 16, .inl (fun zz => nI ((cmg o t n P A C F y 0) zz))))]) EE mw_X0_advance_ac61 mw_X0_advance_acn mw_X0_advance_acs mw_X0_advance_aci 4 3 0 0 rfl rfl rfl rfl rfl (by decide) (by decide) (by decide) (by decide) (by decide) (fun _ _ => rfl) (by decide) (Nat.le_of_ble_eq_true rfl) (by rw [cpy_N (cmg o t n P A C F y 0) A 16 (nI 16) rfl (nI 0) (nI 0) rfl rfl]; rfl) dX0_advance_104 ?_
          refine j_aload_n EE 2 dX0_advance_107 rfl rfl ?_
          refine j_dup EE rfl dX0_advance_108 ?_
          refine j_get (T := TX0) EE iw_X0_advance_X0 0 rfl rfl 3 (by decide) lk_X0_advance_28 rfl dX0_advance_109 ?_
          refine j_iconst (v := nI 1) EE dX0_advance_112 (by decide) ?_
          refine j_iadd EE dX0_advance_113 ?_
          refine j_topE (nI_add ro 1) ?_
          refine j_put (T := TX0) (ws' := [(a, .inr (0, [.ref (b), .ref (fa), .ref (fc), .int (nI (ro + 1)), .int (nI sl)])), (b, .inr (1, [.int (nI P), .int (nI Y), .int (nI o), .int (nI t), .int (nI n), .ref (rb), .int (nI q), .long (lN S), .int (nI h)])), (rb, .inl (cI, 16, .inl (fun zz => nI (F zz)))), (fa, .inl (cI, 16, .inl (fun zz => nI ((cpyN (cmg o t n P A C F y 0) A 16) zz)))), (fc, .inl (cI, 16, .inl (fun zz => nI ((cmg o t n P A C F y 0) zz))))]) EE iw_X0_advance_X0 tyX0 tyX0_ok nmX0 0 rfl rfl 3 (by decide) lk_X0_advance_28 rfl rfl rfl (Nat.le_of_ble_eq_true rfl) rfl dX0_advance_114 ?_
          refine j_iload_n EE 1 dX0_advance_117 rfl rfl ?_
          subst hyY
          exact j_zret EE FF (by have hb9 := b2n_lt (chg o t n P A F y 0); rcases (show b2n (chg o t n P A F y 0) = 0 ∨ b2n (chg o t n P A F y 0) = 1 by omega) with hz | hz <;> rw [hz] <;> decide) dX0_advance_118 () trivial rfl (by unfold adA; first | rw [if_pos (b2n_ne0 n89), b2n_ne0 n89]; rfl | (rw [if_neg (by rw [b2n_0 n89]; decide), b2n_0 n89]; rfl))
      · skip
        have n12 : ¬ Y ≤ y := fun hq => c12 ((nI_leI (a := Y) (b := y) (by omega) (by omega)).mpr hq)
        refine j_iconst (v := nI 0) EE dX0_advance_15 (by decide) ?_
        refine j_istore_n EE [(3, _), (2, _), (1, _), (0, _)] dX0_advance_16 rfl (Nat.lt_of_lt_of_eq (by decide) hL.symm) rfl ?_
        exact Lp_17 _ 0 (Nat.lt_succ_self _) (by omega) (by omega)
  refine j_iconst (v := nI 0) EE dX0_advance_0 (by decide) ?_
  refine j_istore_n EE [(1, _), (0, _)] dX0_advance_1 rfl (Nat.lt_of_lt_of_eq (by decide) hL.symm) rfl ?_
  refine j_iconst (v := nI 0) EE dX0_advance_2 (by decide) ?_
  refine j_istore_n EE [(2, _), (1, _), (0, _)] dX0_advance_3 rfl (Nat.lt_of_lt_of_eq (by decide) hL.symm) rfl ?_
  have hx9 := Lp_4 _ 0 (Nat.lt_succ_self _) (by omega)
  rw [cmg_0, chg_0] at hx9
  exact hx9

theorem iw_X0_saturate_X0 : ∀ w ∈ wsX00, w ∈ wsX0_saturate := fun _ h => List.mem_cons_of_mem _ (List.mem_append_left _ (List.mem_append_right _ h))
theorem lk_X0_saturate_20 : Cond.fieldLink RX0 20 (TX0 4).1 (TX0 4).2.1 (TX0 4).2.2.1 ∈ wsX0_saturate := List.mem_of_getElem? (i := 1) rfl
theorem hd_X0_advance : yX0_advance.cls ≠ "java/lang/invoke/MethodHandle" ∧ yX0_advance.cls ≠ "java/lang/invoke/VarHandle" ∧ (parseMethodDescriptor yX0_advance.desc).map (fun d => d.parameters.length) = some 0 := by decide +kernel
theorem hd_X0_begin : yX0_begin.cls ≠ "java/lang/invoke/MethodHandle" ∧ yX0_begin.cls ≠ "java/lang/invoke/VarHandle" ∧ (parseMethodDescriptor yX0_begin.desc).map (fun d => d.parameters.length) = some 0 := by decide +kernel
set_option maxHeartbeats 4000000 in
set_option maxRecDepth 100000 in
theorem c_X0_saturate (a b rb fa fc P Y o t n q S h ro : Nat) (F A C : Nat → Nat) (ht : t < 16) (ho : o < 16) (hP : P ≤ 4) (hY : Y ≤ 3) (hn : n ≤ 16) (hF : ∀ i, F i < 1024) (hA : ∀ i, A i < 65536) (hC : ∀ i, C i < 65536) : Ct l yX0_saturate wsX0_saturate (rmD (5)) D [(cI, .int), (cC, .char), (cJ, .long), (cG, .object "PushdownGameSolver$Game")] [.ref (a)] [(a, .inr (0, [.ref (b), .ref (fa), .ref (fc), .int (nI ro), .int (nI 1)])), (b, .inr (1, [.int (nI P), .int (nI Y), .int (nI o), .int (nI t), .int (nI n), .ref (rb), .int (nI q), .long (lN S), .int (nI h)])), (rb, .inl (cI, 16, .inl (fun zz => nI (F zz)))), (fa, .inl (cI, 16, .inl (fun zz => nI (A zz)))), (fc, .inl (cI, 16, .inl (fun zz => nI (C zz))))] (S := Unit) (fun _ => True) (fun _ => none) (fun _ => [(a, .inr (0, [.ref (b), .ref (fa), .ref (fc), .int (nI ((satL o t n P Y F 256 (bgA t P A Y 0) (bgZ C 16) 0).2.2)), .int (nI 0)])), (b, .inr (1, [.int (nI P), .int (nI Y), .int (nI o), .int (nI t), .int (nI n), .ref (rb), .int (nI q), .long (lN S), .int (nI h)])), (rb, .inl (cI, 16, .inl (fun zz => nI (F zz)))), (fa, .inl (cI, 16, .inl (fun zz => nI ((satL o t n P Y F 256 (bgA t P A Y 0) (bgZ C 16) 0).1 zz)))), (fc, .inl (cI, 16, .inl (fun zz => nI ((satL o t n P Y F 256 (bgA t P A Y 0) (bgZ C 16) 0).2.1 zz))))]) := by
  refine Ct.of (lv := [(0, .ref (a))]) (by decide) rfl (Nat.le_of_ble_eq_true rfl) rfl ?_
  intro ε hL EE FF
  have Lp_15 : ∀ (nf : Nat), ∀ (i c1 r1 : Nat) (A1 C1 : Nat → Nat), 256 - i < nf → (i ≤ 256) → (c1 < 2) → (∀ j, A1 j < 65536) → (∀ j, C1 j < 65536) → ((c1 = 1 → satL o t n P Y F (256 - i) A1 C1 r1 = (satL o t n P Y F 256 (bgA t P A Y 0) (bgZ C 16) 0)) ∧ (c1 = 0 → (A1, C1, r1) = (satL o t n P Y F 256 (bgA t P A Y 0) (bgZ C 16) 0))) → J l (rmD (5)) D ε [(a, .inr (0, [.ref (b), .ref (fa), .ref (fc), .int (nI r1), .int (nI 1)])), (b, .inr (1, [.int (nI P), .int (nI Y), .int (nI o), .int (nI t), .int (nI n), .ref (rb), .int (nI q), .long (lN S), .int (nI h)])), (rb, .inl (cI, 16, .inl (fun zz => nI (F zz)))), (fa, .inl (cI, 16, .inl (fun zz => nI (A1 zz)))), (fc, .inl (cI, 16, .inl (fun zz => nI (C1 zz))))] 15 [(2, .int (nI i)), (1, .int (nI c1)), (0, .ref (a))] [] := by
    intro nf
    induction nf with
    | zero => intro i c1 r1 A1 C1 hm; exact absurd hm (Nat.not_lt_zero _)
    | succ nf ihp_15 =>
      intro i c1 r1 A1 C1 hm15 hi hc1 hA1 hC1 hq
      refine j_iload_n EE 0 dX0_saturate_15 rfl rfl ?_
      refine j_sipush (v := nI 256) EE dX0_saturate_16 (by decide) ?_
      refine j_icmp_ge EE 37 dX0_saturate_19 (by decide) (fun c19 => ?_) (fun c19 => ?_)
      · skip
        have n19 : 256 ≤ i := (nI_leI (a := 256) (b := i) (by omega) (by omega)).mp c19
        refine j_aload_n EE 2 dX0_saturate_37 rfl rfl ?_
        refine j_iconst (v := nI 0) EE dX0_saturate_38 (by decide) ?_
        refine j_put (T := TX0) (ws' := [(a, .inr (0, [.ref (b), .ref (fa), .ref (fc), .int (nI r1), .int (nI 0)])), (b, .inr (1, [.int (nI P), .int (nI Y), .int (nI o), .int (nI t), .int (nI n), .ref (rb), .int (nI q), .long (lN S), .int (nI h)])), (rb, .inl (cI, 16, .inl (fun zz => nI (F zz)))), (fa, .inl (cI, 16, .inl (fun zz => nI (A1 zz)))), (fc, .inl (cI, 16, .inl (fun zz => nI (C1 zz))))]) EE iw_X0_saturate_X0 tyX0 tyX0_ok nmX0 0 rfl rfl 4 (by decide) lk_X0_saturate_20 rfl (by decide) (by decide) (Nat.le_of_ble_eq_true rfl) rfl dX0_saturate_39 ?_
        exact j_vret EE FF dX0_saturate_42 () trivial rfl (by rw [← sat_end (by omega) hc1 hq (by omega)])
      · skip
        have n19 : ¬ 256 ≤ i := fun hq => c19 ((nI_leI (a := 256) (b := i) (by omega) (by omega)).mpr hq)
        refine j_iload_n EE 1 dX0_saturate_22 rfl rfl ?_
        refine j_if_eq EE 37 dX0_saturate_23 (by decide) (fun c23 => ?_) (fun c23 => ?_)
        · skip
          have n23 : c1 = 0 := (nI_eq (a := c1) (b := 0) (by omega) (by omega)).mp c23
          refine j_aload_n EE 2 dX0_saturate_37 rfl rfl ?_
          refine j_iconst (v := nI 0) EE dX0_saturate_38 (by decide) ?_
          refine j_put (T := TX0) (ws' := [(a, .inr (0, [.ref (b), .ref (fa), .ref (fc), .int (nI r1), .int (nI 0)])), (b, .inr (1, [.int (nI P), .int (nI Y), .int (nI o), .int (nI t), .int (nI n), .ref (rb), .int (nI q), .long (lN S), .int (nI h)])), (rb, .inl (cI, 16, .inl (fun zz => nI (F zz)))), (fa, .inl (cI, 16, .inl (fun zz => nI (A1 zz)))), (fc, .inl (cI, 16, .inl (fun zz => nI (C1 zz))))]) EE iw_X0_saturate_X0 tyX0 tyX0_ok nmX0 0 rfl rfl 4 (by decide) lk_X0_saturate_20 rfl (by decide) (by decide) (Nat.le_of_ble_eq_true rfl) rfl dX0_saturate_39 ?_
          exact j_vret EE FF dX0_saturate_42 () trivial rfl (by rw [← sat_end (by omega) hc1 hq (by omega)])
        · skip
          have n23 : c1 ≠ 0 := fun hq => c23 ((nI_eq (a := c1) (b := 0) (by omega) (by omega)).mpr hq)
          refine j_aload_n EE 2 dX0_saturate_26 rfl rfl ?_
          refine j_V2 (n9 := 5) EE (c_X0_advance a b rb fa fc P Y o t n q S h r1 1 F A1 C1 (by omega) (by omega) (by omega) (by omega) (by omega) hF hA1 hC1) gX0_saturate_X0_advance ⟨rfl, hd_X0_advance⟩ rfl ⟨rfl, rfl⟩ ⟨by decide, by decide⟩ rfl [0, 1, 2, 3, 4] rfl [] [(a, .inr (0, [.ref (b), .ref (fa), .ref (fc), .int (nI (r1 + b2n (chg o t n P A1 F Y 0))), .int (nI 1)])), (b, .inr (1, [.int (nI P), .int (nI Y), .int (nI o), .int (nI t), .int (nI n), .ref (rb), .int (nI q), .long (lN S), .int (nI h)])), (rb, .inl (cI, 16, .inl (fun zz => nI (F zz)))), (fa, .inl (cI, 16, .inl (fun zz => nI ((adA o t n P Y A1 C1 F) zz)))), (fc, .inl (cI, 16, .inl (fun zz => nI ((cmg o t n P A1 C1 F Y 0) zz))))] (fun _ => rfl) [] [a, b, rb, fa, fc] rfl rfl rfl rfl rfl (by decide) (by decide) 0 rfl rfl rfl (Nat.le_of_ble_eq_true rfl) dX0_saturate_27 (fun u_27 h_27 => ?_) rfl
          show J l _ D ε _ _ _ (.int (nI (b2n (chg o t n P A1 F Y 0))) :: _)
          refine j_istore_n EE [(1, _), (2, _), (0, _)] dX0_saturate_30 rfl (Nat.lt_of_lt_of_eq (by decide) hL.symm) rfl ?_
          refine j_iinc (v := nI (i + 1)) EE 1 [(2, .int (nI (i + 1))), (1, _), (0, _)] dX0_saturate_31 rfl (nI_1 i) (Nat.lt_of_lt_of_eq (by decide) hL.symm) rfl ?_
          refine j_goto EE 15 dX0_saturate_34 (by decide) ?_
          exact ihp_15 (i + 1) (b2n (chg o t n P A1 F Y 0)) (r1 + b2n (chg o t n P A1 F Y 0)) (adA o t n P Y A1 C1 F) (cmg o t n P A1 C1 F Y 0) (by omega) (by omega) (b2n_lt _) (adA_lt hA1 hC1) (cmg_lt hA1 hC1) (sat_go (by omega) (by omega) hq)
  refine j_aload_n EE 0 dX0_saturate_0 rfl rfl ?_
  refine j_get (T := TX0) EE iw_X0_saturate_X0 0 rfl rfl 4 (by decide) lk_X0_saturate_20 rfl dX0_saturate_1 ?_
  refine j_if_eq EE 42 dX0_saturate_4 (by decide) (fun c4 => absurd c4 (by decide)) (fun c4 => ?_)
  have n4 : 1 ≠ 0 := fun hq => c4 ((nI_eq (a := 1) (b := 0) (by omega) (by omega)).mpr hq)
  refine j_aload_n EE 0 dX0_saturate_7 rfl rfl ?_
  refine j_V2 (n9 := 5) EE (c_X0_begin a b rb fa fc P Y o t n q S h ro 1 F A C (by omega) (by omega) (by omega)) gX0_saturate_X0_begin ⟨rfl, hd_X0_begin⟩ rfl ⟨rfl, rfl⟩ ⟨by decide, by decide⟩ rfl [0, 1, 2, 3, 4] rfl [] [(a, .inr (0, [.ref (b), .ref (fa), .ref (fc), .int (nI 0), .int (nI 1)])), (b, .inr (1, [.int (nI P), .int (nI Y), .int (nI o), .int (nI t), .int (nI n), .ref (rb), .int (nI q), .long (lN S), .int (nI h)])), (rb, .inl (cI, 16, .inl (fun zz => nI (F zz)))), (fa, .inl (cI, 16, .inl (fun zz => nI ((bgA t P A Y 0) zz)))), (fc, .inl (cI, 16, .inl (fun zz => nI ((bgZ C 16) zz))))] (fun _ => rfl) [] [a, b, rb, fa, fc] rfl rfl rfl rfl rfl (by decide) (by decide) 0 rfl rfl rfl (Nat.le_of_ble_eq_true rfl) dX0_saturate_8 (fun u_8 h_8 => ?_) rfl
  refine j_iconst (v := nI 1) EE dX0_saturate_11 (by decide) ?_
  refine j_istore_n EE [(1, _), (0, _)] dX0_saturate_12 rfl (Nat.lt_of_lt_of_eq (by decide) hL.symm) rfl ?_
  refine j_iconst (v := nI 0) EE dX0_saturate_13 (by decide) ?_
  refine j_istore_n EE [(2, _), (1, _), (0, _)] dX0_saturate_14 rfl (Nat.lt_of_lt_of_eq (by decide) hL.symm) rfl ?_
  exact Lp_15 _ 0 1 0 (bgA t P A Y 0) (bgZ C 16) (Nat.lt_succ_self _) (by omega) (by omega) (bgA_lt hA) (bgZ_lt hC) ⟨fun _ => rfl, fun z => absurd z (by decide)⟩

set_option maxHeartbeats 4000000 in
set_option maxRecDepth 100000 in
theorem c_X0_saturateN (a b rb fa fc P Y o t n q S h ro : Nat) (F A C : Nat → Nat) : Ct l yX0_saturate wsX0_saturate (rmD (5)) D [(cI, .int), (cC, .char), (cJ, .long), (cG, .object "PushdownGameSolver$Game")] [.ref (a)] [(a, .inr (0, [.ref (b), .ref (fa), .ref (fc), .int (nI ro), .int (nI 0)])), (b, .inr (1, [.int (nI P), .int (nI Y), .int (nI o), .int (nI t), .int (nI n), .ref (rb), .int (nI q), .long (lN S), .int (nI h)])), (rb, .inl (cI, 16, .inl (fun zz => nI (F zz)))), (fa, .inl (cI, 16, .inl (fun zz => nI (A zz)))), (fc, .inl (cI, 16, .inl (fun zz => nI (C zz))))] (S := Unit) (fun _ => True) (fun _ => none) (fun _ => [(a, .inr (0, [.ref (b), .ref (fa), .ref (fc), .int (nI ro), .int (nI 0)])), (b, .inr (1, [.int (nI P), .int (nI Y), .int (nI o), .int (nI t), .int (nI n), .ref (rb), .int (nI q), .long (lN S), .int (nI h)])), (rb, .inl (cI, 16, .inl (fun zz => nI (F zz)))), (fa, .inl (cI, 16, .inl (fun zz => nI (A zz)))), (fc, .inl (cI, 16, .inl (fun zz => nI (C zz))))]) := by
  refine Ct.of (lv := [(0, .ref (a))]) (by decide) rfl (Nat.le_of_ble_eq_true rfl) rfl ?_
  intro ε hL EE FF
  refine j_aload_n EE 0 dX0_saturate_0 rfl rfl ?_
  refine j_get (T := TX0) EE iw_X0_saturate_X0 0 rfl rfl 4 (by decide) lk_X0_saturate_20 rfl dX0_saturate_1 ?_
  refine j_if_eq EE 42 dX0_saturate_4 (by decide) (fun c4 => ?_) (fun c4 => absurd (by decide) c4)
  have n4 : 0 = 0 := (nI_eq (a := 0) (b := 0) (by omega) (by omega)).mp c4
  exact j_vret EE FF dX0_saturate_42 () trivial rfl rfl

set_option maxHeartbeats 4000000 in
set_option maxRecDepth 100000 in
theorem c_X0_saturateC (a b rb fa fc P Y o t n q S h ro sl : Nat) (F A C : Nat → Nat) (hsl : sl < 2) (ht : t < 16) (ho : o < 16) (hP : P ≤ 4) (hY : Y ≤ 3) (hn : n ≤ 16) (hF : ∀ i, F i < 1024) (hA : ∀ i, A i < 65536) (hC : ∀ i, C i < 65536) : Ct l yX0_saturate wsX0_saturate (rmD (5)) D [(cI, .int), (cC, .char), (cJ, .long), (cG, .object "PushdownGameSolver$Game")] [.ref (a)] [(a, .inr (0, [.ref (b), .ref (fa), .ref (fc), .int (nI ro), .int (nI sl)])), (b, .inr (1, [.int (nI P), .int (nI Y), .int (nI o), .int (nI t), .int (nI n), .ref (rb), .int (nI q), .long (lN S), .int (nI h)])), (rb, .inl (cI, 16, .inl (fun zz => nI (F zz)))), (fa, .inl (cI, 16, .inl (fun zz => nI (A zz)))), (fc, .inl (cI, 16, .inl (fun zz => nI (C zz))))] (S := Unit) (fun _ => True) (fun _ => none) (fun _ => [(a, .inr (0, [.ref (b), .ref (fa), .ref (fc), .int (nI ((satR sl o t n P Y F A C ro).2.2)), .int (nI 0)])), (b, .inr (1, [.int (nI P), .int (nI Y), .int (nI o), .int (nI t), .int (nI n), .ref (rb), .int (nI q), .long (lN S), .int (nI h)])), (rb, .inl (cI, 16, .inl (fun zz => nI (F zz)))), (fa, .inl (cI, 16, .inl (fun zz => nI ((satR sl o t n P Y F A C ro).1 zz)))), (fc, .inl (cI, 16, .inl (fun zz => nI ((satR sl o t n P Y F A C ro).2.1 zz))))]) := by
  rcases (show sl = 0 ∨ sl = 1 by omega) with rfl | rfl
  · exact c_X0_saturateN a b rb fa fc P Y o t n q S h ro F A C
  · exact c_X0_saturate a b rb fa fc P Y o t n q S h ro F A C ht ho hP hY hn hF hA hC

end G_26_sets
