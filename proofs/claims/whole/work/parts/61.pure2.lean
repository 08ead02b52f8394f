/-! One round of the solver against one round of the model -/
section Pure2
theorem cmF_bit (A : Nat → Nat) (s y U : Nat) (hU : U < 16) : ∀ n, (cmF A s y n).testBit U = true ↔ ∀ v, v < n → s.testBit v = true → (A (v + 4 * y)).testBit U = true
  | 0 => by
    unfold cmF
    constructor
    · intro _ v h; omega
    · intro _; exact all16 U hU
  | n + 1 => by
    have ih := cmF_bit A s y U hU n
    unfold cmF
    by_cases hc : bt s n = 1
    · rw [if_pos hc, Nat.testBit_and, Bool.and_eq_true, ih]
      rw [tb_1] at hc
      constructor
      · rintro ⟨h1, h2⟩ v hv hs
        by_cases hn : v = n
        · subst hn; exact h2
        · exact h1 v (by omega) hs
      · intro h
        exact ⟨fun v hv hs => h v (by omega) hs, h n (by omega) hc⟩
    · rw [if_neg hc, ih]
      rw [tb_1] at hc
      constructor
      · intro h v hv hs
        by_cases hn : v = n
        · subst hn; exact absurd hs hc
        · exact h v (by omega) hs
      · intro h v hv hs
        exact h v (by omega) hs
theorem yL_bit (A : Nat → Nat) (up y U : Nat) : ∀ n, (yL A up y n).testBit U = true ↔ ∃ s, s < n ∧ up.testBit s = true ∧ (cmF A s y 4).testBit U = true
  | 0 => by
    unfold yL
    constructor
    · intro h; rw [Nat.zero_testBit] at h; cases h
    · rintro ⟨s, h, -⟩; omega
  | n + 1 => by
    have ih := yL_bit A up y U n
    unfold yL
    by_cases hc : bt up n = 1
    · rw [if_pos hc, Nat.testBit_or, Bool.or_eq_true, ih]
      rw [tb_1] at hc
      constructor
      · rintro (⟨s, h1, h2⟩ | h)
        · exact ⟨s, by omega, h2⟩
        · exact ⟨n, by omega, hc, h⟩
      · rintro ⟨s, h1, h2, h3⟩
        by_cases hn : s = n
        · subst hn; exact Or.inr h3
        · exact Or.inl ⟨s, by omega, h2, h3⟩
    · rw [if_neg hc, ih]
      rw [tb_1] at hc
      constructor
      · rintro ⟨s, h1, h2⟩; exact ⟨s, by omega, h2⟩
      · rintro ⟨s, h1, h2, h3⟩
        by_cases hn : s = n
        · subst hn; exact absurd h2 hc
        · exact ⟨s, by omega, h2, h3⟩
theorem yS_bit (B : Nat → Nat) (ab lo w : Nat) : ∀ n, (yS B ab lo n).testBit w = true ↔ ∃ s, s < n ∧ (yV B lo s (bt ab s) 4).testBit w = true
  | 0 => by
    unfold yS
    constructor
    · intro h; rw [Nat.zero_testBit] at h; cases h
    · rintro ⟨s, h, -⟩; omega
  | n + 1 => by
    have ih := yS_bit B ab lo w n
    unfold yS
    rw [Nat.testBit_or, Bool.or_eq_true, ih]
    constructor
    · rintro (⟨s, h1, h2⟩ | h)
      · exact ⟨s, by omega, h2⟩
      · exact ⟨n, by omega, h⟩
    · rintro ⟨s, h1, h2⟩
      by_cases hn : s = n
      · subst hn; exact Or.inr h2
      · exact Or.inl ⟨s, by omega, h2⟩
theorem yV_0 (B : Nat → Nat) (lo s : Nat) : ∀ v, yV B lo s 0 v = 0
  | 0 => rfl
  | v + 1 => by unfold yV; rw [if_pos (yV_0 B lo s v)]
theorem upR_sub0 {a a' : Nat} (h : upR a 0) (hs : ∀ U, U < 16 → a'.testBit U = true → a.testBit U = true) : upR a' 0 := by
  intro U hU
  constructor
  · intro h1; exact (h U hU).mp (hs U hU h1)
  · rintro ⟨V, -, h1, -⟩; rw [Nat.zero_testBit] at h1; cases h1
/-- a set of states below P: its families' meeting is what the model unites -/
theorem yV_up {A B : Nat → Nat} {P Y lo s : Nat} (hlo : lo < Y) (hf : ∀ p, p < P → ∀ y, y < Y → upR (A (p + 4 * y)) (B (3 * p + y))) (hs : ∀ v, v < 4 → s.testBit v = true → v < P) : ∀ n, n ≤ 4 → upR (cmF A s lo n) (yV B lo s 1 n)
  | 0, _ => upR_all
  | n + 1, hn => by
    have ih := yV_up hlo hf hs n (by omega)
    unfold yV
    by_cases h0 : yV B lo s 1 n = 0
    · rw [if_pos h0]
      rw [h0] at ih
      refine upR_sub0 ih (fun U hU h => ?_)
      rw [cmF_bit A s lo U hU] at h ⊢
      exact fun v hv hsv => h v (by omega) hsv
    · rw [if_neg h0]
      unfold cmF
      by_cases hc : bt s n = 1
      · rw [if_pos hc, if_pos hc]
        exact upR_and ih (hf n (hs n (by omega) (tb_1.mp hc)) lo hlo)
      · rw [if_neg hc, if_neg hc]
        exact ih
theorem sub_bit : ∀ a : Nat, a < 16 → ∀ b : Nat, b < 16 → a &&& (15 ^^^ b) = 0 → ∀ v : Nat, v < 4 → a.testBit v = true → b.testBit v = true := by decide +kernel
/-- the families of the solver are the closures of the model's, whose sets have states below P alone -/
def famR (P Y : Nat) (A B : Nat → Nat) : Prop := ∀ p, p < P → ∀ y, y < Y → upR (A (p + 4 * y)) (B (3 * p + y)) ∧ anti (B (3 * p + y)) ∧ ∀ V, V < 16 → (B (3 * p + y)).testBit V = true → ∀ v, v < 4 → V.testBit v = true → v < P
theorem two_up {A B : Nat → Nat} {P Y q u lo : Nat} (hf : famR P Y A B) (hq : q < P) (hu : u < Y) (hlo : lo < Y) : upR (yL A (A (q + 4 * u)) lo 16) (yS B (B (3 * q + u)) lo 16) := by
  have hup := (hf q hq u hu).1
  have hval := (hf q hq u hu).2.2
  have hf1 : ∀ p, p < P → ∀ y, y < Y → upR (A (p + 4 * y)) (B (3 * p + y)) := fun p hp y hy => (hf p hp y hy).1
  intro U hU
  rw [yL_bit]
  constructor
  · rintro ⟨s, h1, h2, h3⟩
    obtain ⟨s', g1, g2, g3⟩ := (hup s h1).mp h2
    have h4 : (cmF A s' lo 4).testBit U = true := by
      rw [cmF_bit A s' lo U hU]
      rw [cmF_bit A s lo U hU] at h3
      exact fun v hv hsv => h3 v hv (sub_bit s' g1 s h1 g3 v hv hsv)
    obtain ⟨V, k1, k2, k3⟩ := (yV_up hlo hf1 (hval s' g1 g2) 4 (Nat.le_refl _) U hU).mp h4
    refine ⟨V, k1, (yS_bit B (B (3 * q + u)) lo V 16).mpr ⟨s', g1, ?_⟩, k3⟩
    rw [bt_t g2]
    exact k2
  · rintro ⟨V, h1, h2, h3⟩
    obtain ⟨s, g1, g2⟩ := (yS_bit B (B (3 * q + u)) lo V 16).mp h2
    cases hb : (B (3 * q + u)).testBit s
    · rw [bt_f hb, yV_0, Nat.zero_testBit] at g2
      cases g2
    · rw [bt_t hb] at g2
      exact ⟨s, g1, (hup s g1).mpr ⟨s, g1, hb, sub_rfl s g1⟩, (yV_up hlo hf1 (hval s g1 hb) 4 (Nat.le_refl _) U hU).mpr ⟨V, h1, g2, h3⟩⟩
/-- the solver's rules and the model's row say the same -/
def ruR (P Y n : Nat) (Fc F : Nat → Nat) : Prop := ∀ i, i < n → F (5 + 5 * i) = Fc i % 4 ∧ F (5 + 5 * i + 1) = Fc i / 4 % 4 ∧ F (5 + 5 * i + 2) = Fc i / 16 % 4 ∧ F (5 + 5 * i + 3) = Fc i / 64 % 4 ∧ F (5 + 5 * i + 4) = Fc i / 256 % 4 ∧ Fc i % 4 < P ∧ Fc i / 4 % 4 < Y ∧ Fc i / 16 % 4 < P ∧ Fc i / 64 % 4 ≤ Y ∧ Fc i / 256 % 4 ≤ Y ∧ Fc i < 1024
theorem y_up {A B Fc F : Nat → Nat} {P Y n t i : Nat} (hP : P ≤ 4) (hr : ruR P Y n Fc F) (ht : F 3 = t) (hf : famR P Y A B) (hi : i < n) : upR (yB t A (Fc i)) (yM F B i) := by
  obtain ⟨r0, r1, r2, r3, r4, v0, v1, v2, v3, v4, v5⟩ := hr i hi
  unfold yB yM
  rw [r2, r3, r4, ht]
  by_cases h1 : bt t (Fc i / 16 % 4) = 1
  · rw [if_pos h1, if_pos h1]; exact upR_all
  · rw [if_neg h1, if_neg h1]
    by_cases h2 : Fc i / 64 % 4 = 0
    · rw [if_pos h2, if_pos h2]; exact upR_sws (by omega)
    · rw [if_neg h2, if_neg h2]
      by_cases h3 : Fc i / 256 % 4 = 0
      · rw [if_pos h3, if_pos h3]; exact (hf _ v2 _ (by omega)).1
      · rw [if_neg h3, if_neg h3]; exact two_up hf v2 (by omega) (by omega)
end Pure2
