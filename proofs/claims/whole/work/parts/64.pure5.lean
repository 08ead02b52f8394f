/-! The stack's acceptance; the least sets as both sides tell them -/
section Pure5
/-- the stack as a number and as the model's row has it -/
def skR (Y S h : Nat) (F : Nat → Nat) : Prop := F 86 = h ∧ ∀ k, k < h → F (87 + k) = S / 4 ^ (h - 1 - k) % 4 ∧ F (87 + k) < Y
theorem acD_eq {P Y o t n S h : Nat} {A B Fc F : Nat → Nat} (hg : gmR P Y o t n Fc F) (ht : t < 16) (hf : famR P Y A B) (hs : skR Y S h F) : ∀ k, k ≤ h → acD t P A S h k = acM F B k
  | 0, _ => hg.2.2.2.2.2.1.symm
  | k + 1, hk => by
    have ih := acD_eq hg ht hf hs k (by omega)
    obtain ⟨s1, s2⟩ := hs.2 k (by omega)
    unfold acD acM
    rw [ih, ← s1, hg.2.2.2.2.2.1, hg.2.2.1]
    refine acc_eq hg.1 hf ht s2 ?_ P (Nat.le_refl _)
    rw [← ih]
    exact acD_lt ht hg.1 k
theorem mnB_iff (fam s : Nat) : ∀ n, mnB fam s n = true ↔ ∀ v, v < n → ¬ (s.testBit v = true ∧ fam.testBit (wbit s v 0) = true)
  | 0 => by
    unfold mnB
    constructor
    · intro _ v h; omega
    · intro _; rfl
  | n + 1 => by
    have ih := mnB_iff fam s n
    unfold mnB
    rw [Bool.and_eq_true, ih, Bool.not_eq_true', Bool.and_eq_false_iff, decide_eq_false_iff_not, decide_eq_false_iff_not, tb_1, tb_1]
    constructor
    · rintro ⟨h1, h2⟩ v hv h3
      by_cases hn : v = n
      · subst hn
        rcases h2 with h2 | h2
        · exact h2 h3.1
        · exact h2 h3.2
      · exact h1 v (by omega) h3
    · intro h
      refine ⟨fun v hv => h v (by omega), ?_⟩
      by_cases h1 : s.testBit n = true
      · exact Or.inr (fun h2 => h n (by omega) ⟨h1, h2⟩)
      · exact Or.inl h1
theorem sub_miss : ∀ V : Nat, V < 16 → ∀ s : Nat, s < 16 → V &&& (15 ^^^ s) = 0 → V ≠ s → ∃ v, v < 4 ∧ s.testBit v = true ∧ V &&& (15 ^^^ wbit s v 0) = 0 := by decide +kernel
theorem sub_less1 : ∀ s : Nat, s < 16 → ∀ v : Nat, v < 4 → ∀ V : Nat, V < 16 → (!(s.testBit v) || !decide (V &&& (15 ^^^ wbit s v 0) = 0) || (decide (V &&& (15 ^^^ s) = 0) && !decide (V = s))) = true := by decide +kernel
theorem sub_less (s : Nat) (hs : s < 16) (v : Nat) (hv : v < 4) (h1 : s.testBit v = true) (V : Nat) (hV : V < 16) (h2 : V &&& (15 ^^^ wbit s v 0) = 0) : V &&& (15 ^^^ s) = 0 ∧ V ≠ s := by
  have h := sub_less1 s hs v hv V hV
  rw [h1, decide_eq_true h2] at h
  simpa using h
theorem isMin_iff {a b s : Nat} (h : upR a b) (hb : anti b) (hs : s < 16) : isMin a s = true ↔ b.testBit s = true := by
  unfold isMin
  rw [Bool.and_eq_true, decide_eq_true_eq, tb_1, mnB_iff]
  constructor
  · rintro ⟨h1, h2⟩
    obtain ⟨V, g1, g2, g3⟩ := (h s hs).mp h1
    by_cases hV : V = s
    · subst hV; exact g2
    · obtain ⟨v, k1, k2, k3⟩ := sub_miss V g1 s hs g3 hV
      exact absurd ⟨k2, (h (wbit s v 0) (wbit_lt s hs v k1 0 (by decide))).mpr ⟨V, g1, g2, k3⟩⟩ (h2 v k1)
  · intro h1
    refine ⟨(h s hs).mpr ⟨s, hs, h1, sub_rfl s hs⟩, fun v hv hz => ?_⟩
    obtain ⟨V, g1, g2, g3⟩ := (h (wbit s v 0) (wbit_lt s hs v hv 0 (by decide))).mp hz.2
    obtain ⟨k1, k2⟩ := sub_less s hs v hv hz.1 V g1 g3
    exact (hb s hs h1).2 V g1 k2 g2 k1
theorem isMin_bt {a b s : Nat} (h : upR a b) (hb : anti b) (hs : s < 16) : b2n (isMin a s) = bt b s := by
  cases hz : b.testBit s
  · rw [bt_f hz]
    cases hy : isMin a s
    · rfl
    · rw [(isMin_iff h hb hs).mp hy] at hz; cases hz
  · rw [bt_t hz, (isMin_iff h hb hs).mpr hz]; rfl
theorem mnC_eq {a b : Nat} (h : upR a b) (hb : anti b) : ∀ n, n ≤ 16 → mnC a n = fcC b n
  | 0, _ => rfl
  | n + 1, hn => by
    unfold mnC fcC
    rw [mnC_eq h hb n (by omega), isMin_bt h hb (by omega)]
theorem mfL_eq {a b j : Nat} (h : upR a b) (hb : anti b) : ∀ f s, s + f = 16 → mnC a s ≤ j → mfL a j f s = ffL b f s (j - mnC a s)
  | 0, s, _, _ => rfl
  | f + 1, s, hs, hc => by
    have hmin := isMin_iff h hb (show s < 16 by omega)
    have hbt := isMin_bt h hb (show s < 16 by omega)
    have hst : mnC a (s + 1) = mnC a s + bt b s := by
      show mnC a s + b2n (isMin a s) = _
      rw [hbt]
    unfold mfL ffL
    by_cases hb1 : bt b s = 1
    · have hm := hmin.mpr (tb_1.mp hb1)
      rw [if_pos hb1]
      by_cases hj : mnC a s = j
      · rw [if_pos ⟨hm, hj⟩, if_pos (by omega)]
      · rw [if_neg (fun z => hj z.2), if_neg (by omega), mfL_eq h hb f (s + 1) (by omega) (by omega), hst, hb1]
        congr 1
    · have hb0 : bt b s = 0 := by have := bt_lt b s; omega
      rw [if_neg hb1, if_neg (fun z => hb1 (tb_1.mpr (hmin.mp z.1))), mfL_eq h hb f (s + 1) (by omega) (by omega), hst, hb0]
      congr 1
end Pure5
