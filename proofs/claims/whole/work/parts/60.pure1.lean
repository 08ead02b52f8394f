/-! Families of sets: the solver holds them closed upward, the model by their least ones -/
section Pure1
theorem tb_1 {m i : Nat} : bt m i = 1 ↔ m.testBit i = true := bt_1
theorem tb_sh (w j : Nat) : (1 <<< w).testBit j = decide (w = j) := by
  rw [Nat.one_shiftLeft, Nat.testBit_two_pow]
theorem tb_hi {b i : Nat} (hb : b < 65536) (hi : 16 ≤ i) : b.testBit i = false := Nat.testBit_lt_two_pow (Nat.lt_of_lt_of_le (show b < 2 ^ 16 from hb) (Nat.pow_le_pow_right (n := 2) (by decide) hi))
theorem unI_bit (x y u s w : Nat) : ∀ v, (unI x y u s v).testBit w = true ↔ s.testBit w = true ∨ (x.testBit u = true ∧ ∃ v', v' < v ∧ y.testBit v' = true ∧ u ||| v' = w)
  | 0 => by
    unfold unI
    constructor
    · intro h; exact Or.inl h
    · rintro (h | ⟨-, v', h, -⟩)
      · exact h
      · omega
  | v + 1 => by
    have ih := unI_bit x y u s w v
    unfold unI
    by_cases hc : bt x u = 1 ∧ bt y v = 1
    · rw [if_pos hc, Nat.testBit_or, Bool.or_eq_true, ih, tb_sh, decide_eq_true_eq]
      rw [tb_1, tb_1] at hc
      constructor
      · rintro ((h | ⟨h1, v', h2, h3, h4⟩) | h)
        · exact Or.inl h
        · exact Or.inr ⟨h1, v', by omega, h3, h4⟩
        · exact Or.inr ⟨hc.1, v, by omega, hc.2, h⟩
      · rintro (h | ⟨h1, v', h2, h3, h4⟩)
        · exact Or.inl (Or.inl h)
        · by_cases hv : v' = v
          · subst hv; exact Or.inr h4
          · exact Or.inl (Or.inr ⟨h1, v', by omega, h3, h4⟩)
    · rw [if_neg hc, ih]
      rw [tb_1, tb_1] at hc
      constructor
      · rintro (h | ⟨h1, v', h2, h3, h4⟩)
        · exact Or.inl h
        · exact Or.inr ⟨h1, v', by omega, h3, h4⟩
      · rintro (h | ⟨h1, v', h2, h3, h4⟩)
        · exact Or.inl h
        · by_cases hv : v' = v
          · subst hv; exact absurd ⟨h1, h3⟩ hc
          · exact Or.inr ⟨h1, v', by omega, h3, h4⟩
theorem unO_bit (x y w : Nat) : ∀ n, (unO x y n).testBit w = true ↔ ∃ u, u < n ∧ x.testBit u = true ∧ ∃ v, v < 16 ∧ y.testBit v = true ∧ u ||| v = w
  | 0 => by
    unfold unO
    constructor
    · intro h; rw [Nat.zero_testBit] at h; cases h
    · rintro ⟨u, h, -⟩; omega
  | n + 1 => by
    have ih := unO_bit x y w n
    unfold unO
    rw [unI_bit, ih]
    constructor
    · rintro (⟨u, h1, h2⟩ | ⟨h1, h2⟩)
      · exact ⟨u, by omega, h2⟩
      · exact ⟨n, by omega, h1, h2⟩
    · rintro ⟨u, h1, h2, h3⟩
      by_cases hu : u = n
      · subst hu; exact Or.inr ⟨h2, h3⟩
      · exact Or.inl ⟨u, by omega, h2, h3⟩
theorem msk_bit {u w : Nat} (hw : w < 32) : (4294967295 ^^^ (1 <<< u)).testBit w = !decide (u = w) := by
  rw [Nat.testBit_xor, tb_sh, show (4294967295 : Nat) = 2 ^ 32 - 1 from rfl, Nat.testBit_two_pow_sub_one, decide_eq_true hw, Bool.true_xor]
theorem miI_bit (x u s w : Nat) (hw : w < 32) : ∀ v, (miI x u s v).testBit w = true ↔ s.testBit w = true ∧ ¬ (u = w ∧ ∃ v', v' < v ∧ v' ≠ u ∧ x.testBit u = true ∧ x.testBit v' = true ∧ v' &&& (15 ^^^ u) = 0)
  | 0 => by
    unfold miI
    constructor
    · intro h; exact ⟨h, fun ⟨_, v', hv, _⟩ => by omega⟩
    · intro h; exact h.1
  | v + 1 => by
    have ih := miI_bit x u s w hw v
    unfold miI
    by_cases hc : v ≠ u ∧ bt x u = 1 ∧ bt x v = 1 ∧ v &&& (15 ^^^ u) = 0
    · rw [if_pos hc, Nat.testBit_and, Bool.and_eq_true, ih, msk_bit hw, Bool.not_eq_true', decide_eq_false_iff_not]
      rw [tb_1, tb_1] at hc
      constructor
      · rintro ⟨⟨h1, h2⟩, h3⟩
        exact ⟨h1, fun h => h3 h.1⟩
      · rintro ⟨h1, h2⟩
        refine ⟨⟨h1, fun h => h2 ⟨h.1, ?_⟩⟩, fun h => h2 ⟨h, v, by omega, hc⟩⟩
        obtain ⟨v', g1, g2⟩ := h.2
        exact ⟨v', by omega, g2⟩
    · rw [if_neg hc, ih]
      rw [tb_1, tb_1] at hc
      constructor
      · rintro ⟨h1, h2⟩
        refine ⟨h1, fun h => h2 ⟨h.1, ?_⟩⟩
        obtain ⟨v', g1, g2⟩ := h.2
        by_cases hv : v' = v
        · subst hv; exact absurd g2 hc
        · exact ⟨v', by omega, g2⟩
      · rintro ⟨h1, h2⟩
        refine ⟨h1, fun h => h2 ⟨h.1, ?_⟩⟩
        obtain ⟨v', g1, g2⟩ := h.2
        exact ⟨v', by omega, g2⟩
/-- u is a least set of x -/
def lst (x u : Nat) : Prop := x.testBit u = true ∧ ∀ v, v < 16 → v ≠ u → x.testBit v = true → v &&& (15 ^^^ u) ≠ 0
theorem miO_bit (x w : Nat) (hw : w < 32) : ∀ n, (miO x n).testBit w = true ↔ x.testBit w = true ∧ (w < n → lst x w)
  | 0 => by
    unfold miO
    constructor
    · intro h; exact ⟨h, fun h => by omega⟩
    · intro h; exact h.1
  | n + 1 => by
    have ih := miO_bit x w hw n
    unfold miO
    rw [miI_bit x n (miO x n) w hw, ih]
    constructor
    · rintro ⟨⟨h1, h2⟩, h3⟩
      refine ⟨h1, fun h4 => ?_⟩
      by_cases hn : n = w
      · subst hn
        exact ⟨h1, fun v g1 g2 g3 g4 => h3 ⟨rfl, v, g1, g2, h1, g3, g4⟩⟩
      · exact h2 (by omega)
    · rintro ⟨h1, h2⟩
      refine ⟨⟨h1, fun h => h2 (by omega)⟩, ?_⟩
      rintro ⟨rfl, v, g1, g2, g3, g4, g5⟩
      exact (h2 (by omega)).2 v g1 g2 g4 g5
/-- a is the family of all sets that hold one of b -/
def upR (a b : Nat) : Prop := ∀ U, U < 16 → (a.testBit U = true ↔ ∃ V, V < 16 ∧ b.testBit V = true ∧ V &&& (15 ^^^ U) = 0)
theorem sub_trans : ∀ a : Nat, a < 16 → ∀ b : Nat, b < 16 → ∀ c : Nat, c < 16 → a &&& (15 ^^^ b) = 0 → b &&& (15 ^^^ c) = 0 → a &&& (15 ^^^ c) = 0 := by decide +kernel
theorem sub_or : ∀ a : Nat, a < 16 → ∀ b : Nat, b < 16 → ∀ c : Nat, c < 16 → ((a ||| b) &&& (15 ^^^ c) = 0 ↔ a &&& (15 ^^^ c) = 0 ∧ b &&& (15 ^^^ c) = 0) := by decide +kernel
theorem sub_anti : ∀ a : Nat, a < 16 → ∀ b : Nat, b < 16 → a &&& (15 ^^^ b) = 0 → b &&& (15 ^^^ a) = 0 → a = b := by decide +kernel
theorem sub_rfl : ∀ a : Nat, a < 16 → a &&& (15 ^^^ a) = 0 := by decide +kernel
theorem upR_or {a a' b b' : Nat} (h : upR a b) (h' : upR a' b') : upR (a ||| a') (b ||| b') := by
  intro U hU
  rw [Nat.testBit_or, Bool.or_eq_true, h U hU, h' U hU]
  constructor
  · rintro (⟨V, h1, h2, h3⟩ | ⟨V, h1, h2, h3⟩)
    · exact ⟨V, h1, by rw [Nat.testBit_or, h2]; rfl, h3⟩
    · exact ⟨V, h1, by rw [Nat.testBit_or, h2, Bool.or_true], h3⟩
  · rintro ⟨V, h1, h2, h3⟩
    rw [Nat.testBit_or, Bool.or_eq_true] at h2
    rcases h2 with h2 | h2
    · exact Or.inl ⟨V, h1, h2, h3⟩
    · exact Or.inr ⟨V, h1, h2, h3⟩
theorem upR_and {a a' b b' : Nat} (h : upR a b) (h' : upR a' b') : upR (a &&& a') (unO b b' 16) := by
  intro U hU
  rw [Nat.testBit_and, Bool.and_eq_true, h U hU, h' U hU]
  constructor
  · rintro ⟨⟨V, h1, h2, h3⟩, V', h4, h5, h6⟩
    exact ⟨V ||| V', or16 V h1 V' h4, (unO_bit b b' _ 16).mpr ⟨V, h1, h2, V', h4, h5, rfl⟩, (sub_or V h1 V' h4 U hU).mpr ⟨h3, h6⟩⟩
  · rintro ⟨w, h1, h2, h3⟩
    obtain ⟨V, g1, g2, V', g3, g4, g5⟩ := (unO_bit b b' w 16).mp h2
    subst g5
    have h4 := (sub_or V g1 V' g3 U hU).mp h3
    exact ⟨⟨V, g1, g2, h4.1⟩, V', g3, g4, h4.2⟩
theorem bits16 : ∀ a : Nat, a < 16 → ∀ b : Nat, b < 16 → a &&& (15 ^^^ b) = 0 → a ≠ b → a < b := by decide +kernel
/-- below each set of x lies a least one -/
theorem lst_ex (x : Nat) : ∀ n w : Nat, w < n → w < 16 → x.testBit w = true → ∃ u, u < 16 ∧ lst x u ∧ u &&& (15 ^^^ w) = 0
  | 0, w, h, _, _ => absurd h (Nat.not_lt_zero _)
  | n + 1, w, h, hw, hx => by
    by_cases hl : lst x w
    · exact ⟨w, hw, hl, sub_rfl w hw⟩
    · have h1 : ∃ v, v < 16 ∧ v ≠ w ∧ x.testBit v = true ∧ v &&& (15 ^^^ w) = 0 := by
        refine Classical.byContradiction (fun hn => hl ⟨hx, fun v g1 g2 g3 g4 => hn ⟨v, g1, g2, g3, g4⟩⟩)
      obtain ⟨v, g1, g2, g3, g4⟩ := h1
      obtain ⟨u, k1, k2, k3⟩ := lst_ex x n v (by have := bits16 v g1 w hw g4 g2; omega) g1 g3
      exact ⟨u, k1, k2, sub_trans u k1 v g1 w hw k3 g4⟩
theorem upR_min {a b : Nat} (h : upR a b) : upR a (miO b 16) := by
  intro U hU
  rw [h U hU]
  constructor
  · rintro ⟨V, h1, h2, h3⟩
    obtain ⟨u, g1, g2, g3⟩ := lst_ex b 16 V h1 h1 h2
    exact ⟨u, g1, (miO_bit b u (by omega) 16).mpr ⟨g2.1, fun _ => g2⟩, sub_trans u g1 V h1 U hU g3 h3⟩
  · rintro ⟨V, h1, h2, h3⟩
    exact ⟨V, h1, ((miO_bit b V (by omega) 16).mp h2).1, h3⟩
/-- b holds least sets alone -/
def anti (b : Nat) : Prop := ∀ u, u < 16 → b.testBit u = true → lst b u
theorem miO_anti (x : Nat) : anti (miO x 16) := by
  intro u hu h
  have h1 := ((miO_bit x u (by omega) 16).mp h).2 hu
  exact ⟨h, fun v g1 g2 g3 => h1.2 v g1 g2 ((miO_bit x v (by omega) 16).mp g3).1⟩
theorem upR_inj {a b b' : Nat} (hb : b < 65536) (hb' : b' < 65536) (h : upR a b) (h' : upR a b') (g : anti b) (g' : anti b') : b = b' := by
  have key : ∀ {x y : Nat}, upR a x → upR a y → anti x → anti y → ∀ u, u < 16 → x.testBit u = true → y.testBit u = true := by
    intro x y hx hy gx gy u hu h1
    obtain ⟨v, k1, k2, k3⟩ := (hy u hu).mp ((hx u hu).mpr ⟨u, hu, h1, sub_rfl u hu⟩)
    obtain ⟨w, l1, l2, l3⟩ := (hx v k1).mp ((hy v k1).mpr ⟨v, k1, k2, sub_rfl v k1⟩)
    have h2 := sub_trans w l1 v k1 u hu l3 k3
    by_cases hwu : w = u
    · subst hwu
      have := sub_anti w hu v k1 l3 k3
      rw [this]; exact k2
    · exact absurd h2 ((gx u hu h1).2 w l1 hwu l2)
  apply Nat.eq_of_testBit_eq
  intro i
  by_cases hi : i < 16
  · rw [Bool.eq_iff_iff]
    exact ⟨key h h' g g' i hi, key h' h g' g i hi⟩
  · rw [tb_hi hb (by omega), tb_hi hb' (by omega)]
theorem upR_fun {a a' b : Nat} (ha : a < 65536) (ha' : a' < 65536) (h : upR a b) (h' : upR a' b) : a = a' := by
  apply Nat.eq_of_testBit_eq
  intro i
  by_cases hi : i < 16
  · rw [Bool.eq_iff_iff, h i hi, h' i hi]
  · rw [tb_hi ha (by omega), tb_hi ha' (by omega)]
theorem all16 : ∀ U : Nat, U < 16 → (65535 : Nat).testBit U = true := by decide +kernel
theorem upR_all : upR 65535 1 := by
  intro U hU
  constructor
  · intro _; exact ⟨0, by decide, rfl, Nat.zero_and _⟩
  · intro _; exact all16 U hU
theorem upR_none : upR 0 0 := by
  intro U hU
  constructor
  · intro h; rw [Nat.zero_testBit] at h; cases h
  · rintro ⟨V, -, h, -⟩; rw [Nat.zero_testBit] at h; cases h
theorem sws_bit : ∀ q : Nat, q < 4 → ∀ U : Nat, U < 16 → ((swsN q).testBit U = true ↔ (1 <<< q) &&& (15 ^^^ U) = 0) := by decide +kernel
theorem upR_sws {q : Nat} (hq : q < 4) : upR (swsN q) (1 <<< (1 <<< q)) := by
  intro U hU
  rw [sws_bit q hq U hU]
  constructor
  · intro h; exact ⟨1 <<< q, sh4 q hq, by rw [tb_sh, decide_eq_true rfl], h⟩
  · rintro ⟨V, -, h2, h3⟩
    rw [tb_sh, decide_eq_true_eq] at h2
    subst h2; exact h3
end Pure1
