/-! A target that can be forced within some moves: then the stack is accepted -/
section Pure7
theorem acD_low {t P : Nat} {A : Nat → Nat} {S h : Nat} : ∀ k, k ≤ h → acD t P A S (h + 1) k = acD t P A (S / 4) h k
  | 0, _ => rfl
  | k + 1, hk => by
    have ih := acD_low (t := t) (P := P) (A := A) (S := S) (h := h) k (by omega)
    unfold acD
    rw [ih, show S / 4 / 4 ^ (h - 1 - k) = S / 4 ^ (h + 1 - 1 - k) by
      rw [Nat.div_div_eq_div_mul, ← Nat.pow_succ', show (h - 1 - k).succ = h + 1 - 1 - k by omega]]
theorem acD_top {t P : Nat} {A : Nat → Nat} {S h : Nat} : acD t P A S (h + 1) (h + 1) = aaL t A (acD t P A (S / 4) h h) (S % 4) P := by
  conv => lhs; unfold acD
  rw [acD_low h (Nat.le_refl _), show h + 1 - 1 - h = 0 by omega, Nat.pow_zero, Nat.div_one]
theorem aaL_bit {t : Nat} {A : Nat → Nat} {b y w : Nat} (ht : t < 16) (hw : w < 4) : ∀ n, n ≤ 4 → ((aaL t A b y n).testBit w = true ↔ t.testBit w = true ∨ (w < n ∧ (A (w + 4 * y)).testBit b = true))
  | 0, _ => by
    unfold aaL
    constructor
    · intro h; exact Or.inl h
    · rintro (h | ⟨h, -⟩)
      · exact h
      · omega
  | n + 1, hn => by
    have ih := aaL_bit (A := A) (b := b) (y := y) ht hw n (by omega)
    have hl := aaL_lt (A := A) (u := b) (y := y) ht n (by omega)
    unfold aaL
    by_cases hc : bt (A (n + 4 * y)) b = 1
    · rw [if_pos hc, wb_or _ hl n (by omega) w hw, ih]
      constructor
      · rintro ((h | h) | h)
        · exact Or.inl h
        · exact Or.inr ⟨by omega, h.2⟩
        · subst h; exact Or.inr ⟨by omega, tb_1.mp hc⟩
      · rintro (h | ⟨h1, h2⟩)
        · exact Or.inl (Or.inl h)
        · by_cases hz : w = n
          · exact Or.inr hz.symm
          · exact Or.inl (Or.inr ⟨by omega, h2⟩)
    · rw [if_neg hc, ih]
      constructor
      · rintro (h | h)
        · exact Or.inl h
        · exact Or.inr ⟨by omega, h.2⟩
      · rintro (h | ⟨h1, h2⟩)
        · exact Or.inl h
        · by_cases hz : w = n
          · subst hz; exact absurd (tb_1.mpr h2) hc
          · exact Or.inr ⟨by omega, h2⟩
theorem one_in : ∀ q : Nat, q < 4 → ∀ R : Nat, R < 16 → R.testBit q = true → (1 <<< q) &&& (15 ^^^ R) = 0 := by decide +kernel
/-- the families stand still, and a target's are all sets -/
def fixd (P Y o t n : Nat) (A Fc : Nat → Nat) : Prop := ∀ p, p < P → ∀ y, y < Y → fNx o t n A Fc p (p + 4 * y) = A (p + 4 * y)
theorem rule_in {P Y o t n k S h q : Nat} {A Fc : Nat → Nat} (hP : P ≤ 4) (ht : t < 16) (htP : ∀ w, w < 4 → t.testBit w = true → w < P) (hx : fixd P Y o t n A Fc) (hq : q = k / 16 % 4) (hqP : q < P) (hu : k / 64 % 4 ≤ Y) (hv : k / 256 % 4 ≤ Y) (huv : k / 64 % 4 = 0 → k / 256 % 4 = 0)
    (hac : (acD t P A (sAft S k) (hAft (h + 1) k) (hAft (h + 1) k)).testBit q = true) : (yB t A k).testBit (acD t P A (S / 4) h h) = true := by
  have hR := acD_lt (A := A) (S := S / 4) (h := h) ht hP h
  generalize hRe : acD t P A (S / 4) h h = R at hR ⊢
  unfold yB
  rw [← hq]
  by_cases c1 : bt t q = 1
  · rw [if_pos c1]; exact all16 R hR
  · rw [if_neg c1]
    have c1' : ¬ t.testBit q = true := fun z => c1 (tb_1.mpr z)
    by_cases c2 : k / 64 % 4 = 0
    · rw [if_pos c2]
      have c3 := huv c2
      unfold sAft hAft at hac
      rw [if_pos c2, if_pos c3, if_pos c2, if_pos c3, show h + 1 - 1 + 0 + 0 = h by omega, hRe] at hac
      exact (sws_bit q (by omega) R hR).mpr (one_in q (by omega) R hR hac)
    · rw [if_neg c2]
      by_cases c3 : k / 256 % 4 = 0
      · rw [if_pos c3]
        unfold sAft hAft at hac
        rw [if_neg c2, if_pos c3, if_neg c2, if_pos c3, show h + 1 - 1 + 1 + 0 = h + 1 by omega, acD_top, show (4 * (S / 4) + (k / 64 % 4 - 1)) / 4 = S / 4 by omega, show (4 * (S / 4) + (k / 64 % 4 - 1)) % 4 = k / 64 % 4 - 1 by omega, hRe, aaL_bit ht (by omega) P hP] at hac
        rcases hac with h1 | h1
        · exact absurd h1 c1'
        · exact h1.2
      · rw [if_neg c3]
        unfold sAft hAft at hac
        rw [if_neg c2, if_neg c3, if_neg c2, if_neg c3, show h + 1 - 1 + 1 + 1 = (h + 1) + 1 by omega, acD_top, show (4 * (4 * (S / 4) + (k / 256 % 4 - 1)) + (k / 64 % 4 - 1)) / 4 = 4 * (S / 4) + (k / 256 % 4 - 1) by omega, show (4 * (4 * (S / 4) + (k / 256 % 4 - 1)) + (k / 64 % 4 - 1)) % 4 = k / 64 % 4 - 1 by omega, aaL_bit ht (by omega) P hP, acD_top, show (4 * (S / 4) + (k / 256 % 4 - 1)) / 4 = S / 4 by omega, show (4 * (S / 4) + (k / 256 % 4 - 1)) % 4 = k / 256 % 4 - 1 by omega, hRe] at hac
        rcases hac with h1 | ⟨-, h1⟩
        · exact absurd h1 c1'
        · rw [yL_bit]
          refine ⟨aaL t A R (k / 256 % 4 - 1) P, aaL_lt ht P hP, h1, ?_⟩
          rw [cmF_bit _ _ _ R hR]
          intro w hw hb
          rw [aaL_bit ht hw P hP] at hb
          rcases hb with hb | hb
          · rw [← hx w (htP w hw hb) (k / 256 % 4 - 1) (by omega)]
            unfold fNx
            rw [if_pos (tb_1.mpr hb)]
            exact all16 R hR
          · exact hb.2
theorem soL_some {M : Nat → Nat → Nat → Nat → Option Nat} {F : Nat → Nat} {n pr S h : Nat} : ∀ (j : Nat) (b : Option Nat) (l1 m : Nat), j ≤ n → soL M F n pr S h j b l1 = some m → b ≠ none ∨ ∃ i, i < n ∧ F i % 16 = pr ∧ ∃ lim m', M lim (F i / 16 % 4) (sAft S (F i)) (hAft h (F i)) = some m'
  | 0, b, l1, m, _, hm => by
    refine Or.inl (fun z => ?_)
    have h1 : b = some m := hm
    rw [z] at h1; cases h1
  | j + 1, b, l1, m, hj, hm => by
    unfold soL at hm
    split at hm
    · refine Or.inl (fun z => ?_)
      rw [z] at hm; cases hm
    · split at hm
      · rename_i hc
        split at hm
        · exact soL_some j b l1 m (by omega) hm
        · rename_i m' hm'
          exact Or.inr ⟨n - (j + 1), by omega, hc, _, m', hm'⟩
      · exact soL_some j b l1 m (by omega) hm
theorem ltL_some {M : Nat → Nat → Nat → Option Nat} {F : Nat → Nat} {n pr S h : Nat} : ∀ (j : Nat) (b : Option Nat) (m : Nat), j ≤ n → ltL M F n pr S h j b = some m → (b ≠ none ∨ ∃ i, n - j ≤ i ∧ i < n ∧ F i % 16 = pr) ∧ ∀ i, n - j ≤ i → i < n → F i % 16 = pr → ∃ m', M (F i / 16 % 4) (sAft S (F i)) (hAft h (F i)) = some m'
  | 0, b, m, _, hm => by
    refine ⟨Or.inl (fun z => ?_), fun i h1 h2 => by omega⟩
    have h1 : b = some m := hm
    rw [z] at h1; cases h1
  | j + 1, b, m, hj, hm => by
    unfold ltL at hm
    split at hm
    · rename_i hc
      split at hm
      · cases hm
      · rename_i m' hm'
        obtain ⟨-, g2⟩ := ltL_some j _ m (by omega) hm
        refine ⟨Or.inr ⟨n - (j + 1), Nat.le_refl _, by omega, hc⟩, fun i h1 h2 h3 => ?_⟩
        by_cases hi : i = n - (j + 1)
        · subst hi; exact ⟨m', hm'⟩
        · exact g2 i (by omega) h2 h3
    · rename_i hc
      obtain ⟨g1, g2⟩ := ltL_some j _ m (by omega) hm
      refine ⟨?_, fun i h1 h2 h3 => ?_⟩
      · rcases g1 with g1 | ⟨i, k1, k2, k3⟩
        · exact Or.inl g1
        · exact Or.inr ⟨i, by omega, k2, k3⟩
      · by_cases hi : i = n - (j + 1)
        · subst hi; exact absurd h3 hc
        · exact g2 i (by omega) h2 h3
theorem fAny_in {t : Nat} {A F : Nat → Nat} {pr U i : Nat} (hc : F i % 16 = pr) (h : (yB t A (F i)).testBit U = true) : ∀ r, i < r → (fAny t A F pr r).testBit U = true
  | 0, hr => absurd hr (Nat.not_lt_zero _)
  | r + 1, hr => by
    unfold fAny
    by_cases hi : i = r
    · subst hi
      rw [if_pos hc, Nat.testBit_or, h, Bool.or_true]
    · have ih := fAny_in hc h r (by omega)
      split
      · rw [Nat.testBit_or, ih, Bool.true_or]
      · exact ih
theorem fAll_in {t : Nat} {A F : Nat → Nat} {pr U : Nat} (hU : U < 16) : ∀ r, (∀ i, i < r → F i % 16 = pr → (yB t A (F i)).testBit U = true) → (fAll t A F pr r).testBit U = true
  | 0, _ => all16 U hU
  | r + 1, h => by
    have ih := fAll_in (t := t) (A := A) (F := F) (pr := pr) hU r (fun i hi => h i (by omega))
    unfold fAll
    split
    · rename_i hc
      rw [Nat.testBit_and, ih, h r (by omega) hc]; rfl
    · exact ih
theorem fHas_in {F : Nat → Nat} {pr i : Nat} (hc : F i % 16 = pr) : ∀ r, i < r → fHas F pr r ≠ 0
  | 0, hr => absurd hr (Nat.not_lt_zero _)
  | r + 1, hr => by
    unfold fHas
    split
    · decide
    · rename_i hn
      exact fHas_in hc r (by
        rcases Nat.lt_or_ge i r with hz | hz
        · exact hz
        · have : i = r := by omega
          subst this; exact absurd hc hn)
/-- moves that force a target: the configuration is accepted -/
theorem mv_acc {P Y o t n : Nat} {A Fc F : Nat → Nat} (hP : P ≤ 4) (ht : t < 16) (htP : ∀ w, w < 4 → t.testBit w = true → w < P) (hx : fixd P Y o t n A Fc) (hr : ruR P Y n Fc F) (huv : ∀ i, i < n → Fc i / 64 % 4 = 0 → Fc i / 256 % 4 = 0) : ∀ (f lim p S h m : Nat), p < P → mvF o t n Fc f lim p S h = some m → (acD t P A S h h).testBit p = true
  | f, lim, p, S, h, m, hp, hm => by
    have htin : t.testBit p = true → (acD t P A S h h).testBit p = true := by
      intro hz
      cases h with
      | zero => exact hz
      | succ h => rw [acD_top, aaL_bit ht (by omega) P hP]; exact Or.inl hz
    cases f with
    | zero =>
      unfold mvF at hm
      split at hm
      · rename_i hc; exact htin (tb_1.mp hc)
      · cases hm
    | succ f =>
      unfold mvF at hm
      split at hm
      · rename_i hc; exact htin (tb_1.mp hc)
      · rename_i hc
        split at hm
        · cases hm
        · rename_i hz
          cases h with
          | zero => omega
          | succ h =>
            have hR := acD_lt (A := A) (S := S / 4) (h := h) ht hP h
            have one : ∀ i, i < n → (∃ lim m', mvF o t n Fc f lim (Fc i / 16 % 4) (sAft S (Fc i)) (hAft (h + 1) (Fc i)) = some m') → (yB t A (Fc i)).testBit (acD t P A (S / 4) h h) = true := by
              rintro i hi ⟨l2, m', hm'⟩
              obtain ⟨r0, r1, r2, r3, r4, v0, v1, v2, v3, v4, v5⟩ := hr i hi
              exact rule_in hP ht htP hx rfl v2 v3 v4 (huv i hi) (mv_acc hP ht htP hx hr huv f l2 _ _ _ m' v2 hm')
            have hpr : ∀ i, i < n → Fc i % 16 = p + 4 * (S % 4) → S % 4 < Y := by
              intro i hi h1
              obtain ⟨r0, r1, r2, r3, r4, v0, v1, v2, v3, v4, v5⟩ := hr i hi
              omega
            rw [acD_top, aaL_bit ht (by omega) P hP]
            split at hm
            · rename_i ho
              obtain ⟨g1, g2⟩ := ltL_some n none m (Nat.le_refl _) hm
              rcases g1 with g1 | ⟨i, -, k2, k3⟩
              · exact absurd rfl g1
              · refine Or.inr ⟨hp, ?_⟩
                rw [← hx p hp (S % 4) (hpr i k2 k3)]
                unfold fNx
                rw [if_neg hc, if_pos ho, if_neg (fHas_in k3 n k2)]
                exact fAll_in hR n (fun i2 hi2 hc2 => one i2 hi2 (by obtain ⟨m', hm'⟩ := g2 i2 (by omega) hi2 hc2; exact ⟨_, m', hm'⟩))
            · rename_i ho
              rcases soL_some n none lim m (Nat.le_refl _) hm with g1 | ⟨i, k2, k3, l2, m', hm'⟩
              · exact absurd rfl g1
              · refine Or.inr ⟨hp, ?_⟩
                rw [← hx p hp (S % 4) (hpr i k2 k3)]
                unfold fNx
                rw [if_neg hc, if_neg ho]
                exact fAny_in k3 (one i k2 ⟨l2, m', hm'⟩) n k2
end Pure7
