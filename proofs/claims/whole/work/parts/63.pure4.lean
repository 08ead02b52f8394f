/-! All rounds: the solver's families and number of rounds are the model's -/
section Pure4
/-- what the solver's game and the model's row share -/
def gmR (P Y o t n : Nat) (Fc F : Nat → Nat) : Prop := P ≤ 4 ∧ Y ≤ 3 ∧ F 0 = P ∧ F 1 = Y ∧ F 2 = o ∧ F 3 = t ∧ F 4 = n ∧ ruR P Y n Fc F
theorem gmR_ru {P Y o t n : Nat} {Fc F : Nat → Nat} (h : gmR P Y o t n Fc F) : mRu F := by
  obtain ⟨hP, hY, h0, h1, h2, h3, h4, hr⟩ := h
  intro r hr2
  rw [h4] at hr2
  obtain ⟨r0, r1, r2, r3, r4, v0, v1, v2, v3, v4, v5⟩ := hr r hr2
  rw [r2, r3, r4]
  omega
theorem fam_step {P Y o t n : Nat} {A B C Fc F : Nat → Nat} (hg : gmR P Y o t n Fc F) (hA : ∀ i, A i < 65536) (hB : ∀ i, B i < 65536) (hf : famR P Y A B) : famR P Y (adA o t n P Y A C Fc) (stM F B (F 0) 0) := by
  obtain ⟨hP, hY, h0, h1, h2, h3, h4, hr⟩ := id hg
  intro p hp y hy
  obtain ⟨k1, k2, k3⟩ := nx_up hP hp hy hY hr h3 h2 h4 hf
  have e1 : stM F B (F 0) 0 (3 * p + y) = ftM F B p y := by
    unfold stM
    rw [if_pos (by omega), show (3 * p + y) / 3 = p by omega, show (3 * p + y) % 3 = y by omega]
  have e2 : adA o t n P Y A C Fc (p + 4 * y) = fNx o t n A Fc p (p + 4 * y) := by
    unfold adA
    by_cases hc : chg o t n P A Fc Y 0 = true
    · rw [if_pos hc]
      unfold cpyN cmg
      rw [if_pos (by omega), if_pos (by omega), show (p + 4 * y) % 4 = p by omega]
    · rw [if_neg hc]
      refine Classical.byContradiction (fun hne => hc ?_)
      rw [chg_iff]
      refine ⟨p + 4 * y, by omega, by omega, ?_⟩
      rw [show (p + 4 * y) % 4 = p by omega]
      exact fun h => hne h.symm
  rw [e1, e2]
  exact ⟨k1, k2, k3⟩
theorem fam_begin {P Y t : Nat} {A B F : Nat → Nat} (hP : P ≤ 4) (hY : Y ≤ 3) (h0 : F 0 = P) (h3 : F 3 = t) : famR P Y (bgA t P A Y 0) (bgM F B 12) := by
  intro p hp y hy
  have e1 : bgA t P A Y 0 (p + 4 * y) = if bt t p = 1 then 65535 else 0 := by
    unfold bgA
    rw [if_pos (by omega), show (p + 4 * y) % 4 = p by omega]
    by_cases hb : bt t p = 1
    · rw [if_pos (by omega), if_pos hb]
    · rw [if_neg (by omega), if_neg hb]
  have e2 : bgM F B 12 (3 * p + y) = if bt t p = 1 then 1 else 0 := by
    unfold bgM
    rw [if_pos (by omega), show (3 * p + y) / 3 = p by omega, h3, h0]
    by_cases hb : bt t p = 1
    · rw [if_pos hb, decide_eq_true ⟨hb, hp⟩]; rfl
    · rw [if_neg hb, decide_eq_false (fun z => hb z.1)]; rfl
  rw [e1, e2]
  by_cases hb : bt t p = 1
  · rw [if_pos hb, if_pos hb]; exact ⟨upR_all, anti_1, vld_1 P⟩
  · rw [if_neg hb, if_neg hb]
    refine ⟨upR_none, fun u _ h => ?_, vld_0 P⟩
    rw [Nat.zero_testBit] at h; cases h
/-- from round k on: the solver ends where the model does -/
theorem sat_eq {P Y o t n N : Nat} {Fc F B0 : Nat → Nat} (hg : gmR P Y o t n Fc F) (hB0 : ∀ i, B0 i < 65536) (hN : endsAt F B0 N) : ∀ (f k r : Nat) (A C : Nat → Nat), k ≤ N → N - k < f → (∀ i, A i < 65536) → (∀ i, C i < 65536) → famR P Y A (gB F B0 k) →
    famR P Y (satL o t n P Y Fc f A C r).1 (gB F B0 N) ∧ (satL o t n P Y Fc f A C r).2.2 = r + (N - k)
  | 0, k, r, A, C, hk, hf, _, _, _ => absurd hf (Nat.not_lt_zero _)
  | f + 1, k, r, A, C, hk, hf, hA, hC, hfam => by
    have hru := gmR_ru hg
    have hBk := gB_lt hru hB0 k
    obtain ⟨hP, hY, h0, h1, h2, h3, h4, hr⟩ := id hg
    have hch := ch_eq hP hY hr h0 h1 h3 h2 h4 hA hBk hru hfam
    rcases Nat.lt_or_ge k N with h | h
    · have hc : chg o t n P A Fc Y 0 = true := by rw [hch]; exact hN.1 k h
      rw [satL_t hc]
      obtain ⟨g1, g2⟩ := sat_eq hg hB0 hN f (k + 1) (r + 1) _ _ h (by omega) (adA_lt hA hC) (cmg_lt hA hC) (fam_step (C := C) hg hA hBk hfam)
      exact ⟨g1, by rw [g2]; omega⟩
    · obtain rfl : k = N := by omega
      have hc : chg o t n P A Fc Y 0 = false := by rw [hch]; exact hN.2
      rw [satL_f hc]
      exact ⟨hfam, by show r = r + (k - k); omega⟩
theorem sat_all {P Y o t n N : Nat} {Fc F A C B : Nat → Nat} (hg : gmR P Y o t n Fc F) (hA : ∀ i, A i < 65536) (hC : ∀ i, C i < 65536) (hB : ∀ i, B i < 65536) (hN : endsAt F (bgM F B 12) N) (hN2 : N < 256) :
    famR P Y (satL o t n P Y Fc 256 (bgA t P A Y 0) C 0).1 (gB F (bgM F B 12) N) ∧ (satL o t n P Y Fc 256 (bgA t P A Y 0) C 0).2.2 = N := by
  obtain ⟨g1, g2⟩ := sat_eq hg (bgM_lt hB) hN 256 0 0 (bgA t P A Y 0) C (Nat.zero_le _) (by omega) (bgA_lt hA) hC (fam_begin hg.1 hg.2.1 hg.2.2.1 hg.2.2.2.2.2.1)
  exact ⟨g1, by rw [g2]; omega⟩
/-- acceptance above a set: the same states -/
theorem acI_bit (x b p s w : Nat) : ∀ u, (acI x b p s u).testBit w = true ↔ s.testBit w = true ∨ (p = w ∧ ∃ v, v < u ∧ x.testBit v = true ∧ v &&& (15 ^^^ b) = 0)
  | 0 => by
    unfold acI
    constructor
    · intro h; exact Or.inl h
    · rintro (h | ⟨-, v, h, -⟩)
      · exact h
      · omega
  | u + 1 => by
    have ih := acI_bit x b p s w u
    unfold acI
    by_cases hc : bt x u = 1 ∧ u &&& (15 ^^^ b) = 0
    · rw [if_pos hc, Nat.testBit_or, Bool.or_eq_true, ih, tb_sh, decide_eq_true_eq]
      rw [tb_1] at hc
      constructor
      · rintro ((h | ⟨h1, v, h2, h3⟩) | h)
        · exact Or.inl h
        · exact Or.inr ⟨h1, v, by omega, h3⟩
        · exact Or.inr ⟨h, u, by omega, hc⟩
      · rintro (h | ⟨h1, v, h2, h3⟩)
        · exact Or.inl (Or.inl h)
        · exact Or.inr h1
    · rw [if_neg hc, ih]
      rw [tb_1] at hc
      constructor
      · rintro (h | ⟨h1, v, h2, h3⟩)
        · exact Or.inl h
        · exact Or.inr ⟨h1, v, by omega, h3⟩
      · rintro (h | ⟨h1, v, h2, h3⟩)
        · exact Or.inl h
        · by_cases hv : v = u
          · subst hv; exact absurd h3 hc
          · exact Or.inr ⟨h1, v, by omega, h3⟩
theorem wb_or : ∀ m : Nat, m < 16 → ∀ i : Nat, i < 4 → ∀ w : Nat, w < 4 → ((wbit m i 1).testBit w = true ↔ m.testBit w = true ∨ i = w) := by decide +kernel
theorem tb_eq16 {a b : Nat} (ha : a < 16) (hb : b < 16) (h : ∀ w, w < 4 → (a.testBit w = true ↔ b.testBit w = true)) : a = b := by
  apply Nat.eq_of_testBit_eq
  intro i
  by_cases hi : i < 4
  · rw [Bool.eq_iff_iff]; exact h i hi
  · have h1 : ∀ {x : Nat}, x < 16 → x.testBit i = false := fun {x} hx => Nat.testBit_lt_two_pow (Nat.lt_of_lt_of_le (show x < 2 ^ 4 from hx) (Nat.pow_le_pow_right (n := 2) (by decide) (by omega)))
    rw [h1 ha, h1 hb]
theorem acc_eq {P Y t y b : Nat} {A B : Nat → Nat} (hP : P ≤ 4) (hf : famR P Y A B) (ht : t < 16) (hy : y < Y) (hb : b < 16) : ∀ p, p ≤ P → aaL t A b y p = acO t B y b p
  | 0, _ => rfl
  | p + 1, hp => by
    have ih := acc_eq hP hf ht hy hb p (by omega)
    have hl := aaL_lt (A := A) (u := b) (y := y) ht p (by omega)
    have hl2 := acO_lt (B := B) (y := y) (b := b) ht p (by omega)
    refine tb_eq16 (aaL_lt ht (p + 1) (by omega)) (acO_lt ht (p + 1) (by omega)) (fun w hw => ?_)
    unfold aaL acO
    rw [acI_bit]
    have hup := (hf p (by omega) y hy).1 b hb
    by_cases hc : bt (A (p + 4 * y)) b = 1
    · rw [if_pos hc, wb_or _ hl p (by omega) w hw, ih]
      have h2 := hup.mp (tb_1.mp hc)
      constructor
      · rintro (h | h)
        · exact Or.inl h
        · exact Or.inr ⟨h, h2⟩
      · rintro (h | h)
        · exact Or.inl h
        · exact Or.inr h.1
    · rw [if_neg hc, ih]
      constructor
      · intro h; exact Or.inl h
      · rintro (h | ⟨-, h⟩)
        · exact h
        · exact absurd (tb_1.mpr (hup.mpr h)) hc
end Pure4
