section Rel5
theorem lt_in {ft T : Nat → Nat} {le j c : Nat} (hT : ∀ i, i < le → T i = ft i) (h : ltr ft le j = c) (hc : c ≠ 0) : j < le ∧ T j = c := by
  unfold ltr at h
  split at h
  · rename_i hj
    exact ⟨hj, by rw [hT j hj]; exact h⟩
  · omega
theorem lt_of {ft T : Nat → Nat} {le j : Nat} (hT : ∀ i, i < le → T i = ft i) (hj : j < le) : ltr ft le j = T j := by
  unfold ltr
  rw [if_pos hj, hT j hj]
theorem fig_ex {ft T : Nat → Nat} {le j b : Nat} (hT : ∀ i, i < le → T i = ft i) (h : ¬ fig (ltr ft le j) b = 0) : j < le ∧ 48 ≤ T j ∧ T j < 48 + b ∧ fig (ltr ft le j) b = T j - 48 + 1 := by
  have h2 : 48 ≤ ltr ft le j ∧ ltr ft le j < 48 + b := by
    refine Classical.byContradiction (fun hn => h ?_)
    unfold fig
    rw [if_neg hn]
  obtain ⟨q1, q2⟩ := lt_in hT (rfl : ltr ft le j = ltr ft le j) (by omega)
  refine ⟨q1, by omega, by omega, ?_⟩
  unfold fig
  rw [if_pos h2, q2]
theorem fig_of {ft T : Nat → Nat} {le j b : Nat} (hT : ∀ i, i < le → T i = ft i) (hj : j < le) (h1 : 48 ≤ T j) (h2 : T j < 48 + b) : fig (ltr ft le j) b = T j - 48 + 1 := by
  rw [lt_of hT hj]
  unfold fig
  rw [if_pos ⟨h1, h2⟩]
theorem s1M_to {ft T : Nat → Nat} {le : Nat} {E : Nat → Nat} {q : Nat × (Nat → Nat)} (hT : ∀ i, i < le → T i = ft i) (h : s1M ft le E 0 = some q) : 4 < le ∧ T 0 = 103 ∧ 49 ≤ T 1 ∧ T 1 ≤ 52 ∧ T 2 = 44 ∧ 49 ≤ T 3 ∧ T 3 ≤ 51 ∧ T 4 = 59 ∧ q = (5, updN (updN E 0 (T 1 - 48)) 1 (T 3 - 48)) := by
  unfold s1M at h
  split at h
  · exact (nso h).elim
  split at h
  · exact (nso h).elim
  split at h
  · exact (nso h).elim
  split at h
  · exact (nso h).elim
  split at h
  · exact (nso h).elim
  rename_i h0 h1 h2 h3 h4
  have a0 := lt_in hT (Decidable.of_not_not h0) (by decide)
  have a1 := fig_ex (T := T) hT (show ¬ fig (ltr ft le (0 + 1)) 5 = 0 by omega)
  have a2 := lt_in hT (Decidable.of_not_not h2) (by decide)
  have a3 := fig_ex (T := T) hT (show ¬ fig (ltr ft le (0 + 1 + 1 + 1)) 4 = 0 by omega)
  have a4 := lt_in hT (Decidable.of_not_not h4) (by decide)
  rw [a1.2.2.2] at h h1
  rw [a3.2.2.2] at h h3
  simp only [Nat.zero_add, Nat.reduceAdd, Nat.add_sub_cancel] at a0 a1 a2 a3 a4 h h1 h3
  exact ⟨a4.1, a0.2, by omega, by omega, a2.2, by omega, by omega, a4.2, (Option.some.inj h).symm⟩
theorem s1M_of {ft T : Nat → Nat} {le : Nat} {E : Nat → Nat} (hT : ∀ i, i < le → T i = ft i) (h : 4 < le ∧ T 0 = 103 ∧ 49 ≤ T 1 ∧ T 1 ≤ 52 ∧ T 2 = 44 ∧ 49 ≤ T 3 ∧ T 3 ≤ 51 ∧ T 4 = 59) : ∃ q, s1M ft le E 0 = some q := by
  obtain ⟨hl, t0, t1, t1', t2, t3, t3', t4⟩ := h
  have b0 : ltr ft le 0 = 103 := (lt_of hT (by omega)).trans t0
  have b1 : fig (ltr ft le (0 + 1)) 5 = T 1 - 48 + 1 := fig_of hT (by omega) (show 48 ≤ T 1 by omega) (show T 1 < 48 + 5 by omega)
  have b2 : ltr ft le (0 + 1 + 1) = 44 := (lt_of hT (by omega)).trans t2
  have b3 : fig (ltr ft le (0 + 1 + 1 + 1)) 4 = T 3 - 48 + 1 := fig_of hT (by omega) (show 48 ≤ T 3 by omega) (show T 3 < 48 + 4 by omega)
  have b4 : ltr ft le (0 + 1 + 1 + 1 + 1) = 59 := (lt_of hT (by omega)).trans t4
  unfold s1M
  rw [if_neg (by omega), if_neg (by omega), if_neg (by omega), if_neg (by omega), if_neg (by omega)]
  exact ⟨_, rfl⟩
theorem kwA_i {T : Nat → Nat} {a : Nat} : ∀ n, (∀ i, 1 ≤ i → i < n → kwB T a i = true) → kwA T a n = true
  | 0, _ => rfl
  | n + 1, h => by
    unfold kwA
    rw [kwA_i n (fun i h1 h2 => h i h1 (by omega))]
    by_cases hn : n = 0
    · rw [decide_eq_true hn]; rfl
    · rw [h n (by omega) (by omega), Bool.or_true]; rfl
/-- m numbers behind the letter at a, and commas between them -/
def nbs (T : Nat → Nat) (a m : Nat) : Prop := (∀ i, i < m → 48 ≤ T (a + 1 + 2 * i) ∧ T (a + 1 + 2 * i) ≤ 57) ∧ ∀ i, 1 ≤ i → i < m → T (a + 2 * i) = 44
theorem kwn_iff {T : Nat → Nat} {a b : Nat} : kwn T a b = true ↔ ∃ m, 1 ≤ m ∧ b - a = 2 * m ∧ nbs T a m := by
  constructor
  · intro h
    have hd := fun i => kwn_dig h i
    unfold kwn at h
    simp only [Bool.and_eq_true, decide_eq_true_eq] at h
    refine ⟨(b - a) / 2, by omega, by omega, hd, fun i h1 h2 => ?_⟩
    have h3 := kwA_t _ h.2 (2 * i) (by omega) (by omega)
    unfold kwB at h3
    rw [if_neg (by omega), decide_eq_true_eq] at h3
    exact h3
  · rintro ⟨m, h1, h2, h3, h4⟩
    unfold kwn
    simp only [Bool.and_eq_true, decide_eq_true_eq]
    refine ⟨⟨by omega, by omega⟩, kwA_i _ (fun i i1 i2 => ?_)⟩
    unfold kwB
    by_cases hi : i % 2 = 1
    · rw [if_pos hi, decide_eq_true_eq]
      have h5 := h3 (i / 2) (by omega)
      rw [show a + 1 + 2 * (i / 2) = a + i by omega] at h5
      exact h5
    · rw [if_neg hi, decide_eq_true_eq]
      have h5 := h4 (i / 2) (by omega) (by omega)
      rw [show a + 2 * (i / 2) = a + i by omega] at h5
      exact h5
theorem stm_m {T : Nat → Nat} {a m : Nat} {d : DS} (h1 : 1 ≤ m) (hn : nbs T a m) : stm T a (a + 2 * m) d = if (T a = 103 ↔ a = 0) then (if T a = 103 then (if m = 2 then szs T a d else none) else if T a = 111 ∨ T a = 116 then (if m = 1 then mrk T a d else none) else if T a = 114 ∧ 3 ≤ m ∧ m ≤ 5 then rul T a m d else none) else none := by
  unfold stm
  rw [if_pos (kwn_iff.mpr ⟨m, h1, by omega, hn⟩), show (a + 2 * m - a) / 2 = m by omega]
theorem stm_ex {T : Nat → Nat} {a b : Nat} {d d' : DS} (h : stm T a b d = some d') : ∃ m, 1 ≤ m ∧ b = a + 2 * m ∧ nbs T a m := by
  unfold stm at h
  split at h
  · rename_i hk
    obtain ⟨m, h1, h2, h3⟩ := kwn_iff.mp hk
    exact ⟨m, h1, by omega, h3⟩
  · exact (nso h).elim
theorem nbs_59 {T : Nat → Nat} {a m k : Nat} (h : nbs T a m) (h0 : T a ≠ 59) (h1 : a ≤ k) (h2 : k < a + 2 * m) : T k ≠ 59 := by
  rcases Nat.eq_or_lt_of_le h1 with h3 | h3
  · rw [← h3]; exact h0
  · by_cases hp : (k - a) % 2 = 1
    · have h5 := h.1 ((k - a) / 2) (by omega)
      rw [show a + 1 + 2 * ((k - a) / 2) = k by omega] at h5
      omega
    · have h5 := h.2 ((k - a) / 2) (by omega) (by omega)
      rw [show a + 2 * ((k - a) / 2) = k by omega] at h5
      omega
theorem oM_to {ft T : Nat → Nat} {le a : Nat} {E : Nat → Nat} {q : Nat × (Nat → Nat)} (hT : ∀ i, i < le → T i = ft i) (hk : ltr ft le a = 111 ∨ ltr ft le a = 116) (hE : E 0 ≤ 4) (h : s0M ft le E a = some q) : a + 2 < le ∧ (T a = 111 ∨ T a = 116) ∧ 48 ≤ T (a + 1) ∧ T (a + 1) < 48 + E 0 ∧ T (a + 2) = 59 ∧ q = (a + 3, if T a = 111 then updN E 2 (wbit (E 2) (T (a + 1) - 48) 1) else updN E 3 (wbit (E 3) (T (a + 1) - 48) 1)) := by
  unfold s0M at h
  rw [if_pos hk] at h
  split at h
  · exact (nso h).elim
  split at h
  · exact (nso h).elim
  rename_i h1 h2
  have a0 := lt_in hT (rfl : ltr ft le a = ltr ft le a) (by omega)
  have a1 := fig_ex hT h1
  have a2 := lt_in hT (Decidable.of_not_not h2) (by decide)
  rw [a1.2.2.2, Nat.add_sub_cancel] at h
  refine ⟨a2.1, by omega, a1.2.1, a1.2.2.1, a2.2, ?_⟩
  by_cases h3 : T a = 111
  · rw [if_pos (by omega)] at h
    rw [if_pos h3]
    exact (Option.some.inj h).symm
  · rw [if_neg (by omega)] at h
    rw [if_neg h3]
    exact (Option.some.inj h).symm
theorem oM_of {ft T : Nat → Nat} {le a : Nat} {E : Nat → Nat} (hT : ∀ i, i < le → T i = ft i) (h : a + 2 < le ∧ (T a = 111 ∨ T a = 116) ∧ 48 ≤ T (a + 1) ∧ T (a + 1) < 48 + E 0 ∧ T (a + 2) = 59) : ∃ q, s0M ft le E a = some q := by
  obtain ⟨hl, t0, t1, t1', t2⟩ := h
  have b0 : ltr ft le a = T a := lt_of hT (by omega)
  have b1 : fig (ltr ft le (a + 1)) (E 0) = T (a + 1) - 48 + 1 := fig_of hT (by omega) t1 t1'
  have b2 : ltr ft le (a + 1 + 1) = 59 := (lt_of hT (by omega)).trans t2
  unfold s0M
  rw [if_pos (by omega), if_neg (by omega), if_neg (by omega)]
  split
  · exact ⟨_, rfl⟩
  · exact ⟨_, rfl⟩
/-- a rule's text at a: m numbers in their bounds, then the ; -/
def rTx (T : Nat → Nat) (le a m P Y : Nat) : Prop := 3 ≤ m ∧ m ≤ 5 ∧ a + 2 * m < le ∧ T (a + 2 * m) = 59 ∧ (48 ≤ T (a + 1) ∧ T (a + 1) < 48 + P) ∧ (48 ≤ T (a + 3) ∧ T (a + 3) < 48 + Y) ∧ (48 ≤ T (a + 5) ∧ T (a + 5) < 48 + P) ∧ (3 < m → 48 ≤ T (a + 7) ∧ T (a + 7) < 48 + Y) ∧ (4 < m → 48 ≤ T (a + 9) ∧ T (a + 9) < 48 + Y) ∧ T (a + 2) = 44 ∧ T (a + 4) = 44 ∧ (3 < m → T (a + 6) = 44) ∧ (4 < m → T (a + 8) = 44)
theorem riT_to {E : Nat → Nat} {sp a b c u v : Nat} {q : Nat × (Nat → Nat)} (h : riT E sp a b c u v = some q) : (hrC E (a - 1) (b - 1) (E 4) < 3 ∧ E 4 < 16) ∧ q = (sp, ruF E (a - 1) (b - 1) (c - 1) u v) := by
  unfold riT at h
  split at h
  · rename_i hz
    exact ⟨hz, (Option.some.inj h).symm⟩
  · exact (nso h).elim
theorem riM_to {ft T : Nat → Nat} {le a : Nat} {E : Nat → Nat} {q : Nat × (Nat → Nat)} (hT : ∀ i, i < le → T i = ft i) (h : riM ft le E (a + 1) = some q) : ∃ m, rTx T le a m (E 0) (E 1) ∧ (hrC E (T (a + 1) - 48) (T (a + 3) - 48) (E 4) < 3 ∧ E 4 < 16) ∧ q = (a + 2 * m + 1, ruF E (T (a + 1) - 48) (T (a + 3) - 48) (T (a + 5) - 48) (ruV T a m 3) (ruV T a m 4)) := by
  unfold riM at h
  split at h
  · exact (nso h).elim
  split at h
  · exact (nso h).elim
  split at h
  · exact (nso h).elim
  split at h
  · exact (nso h).elim
  split at h
  · exact (nso h).elim
  rename_i h1 h2 h3 h4 h5
  have a1 := fig_ex hT h1
  have a2 := lt_in hT (Decidable.of_not_not h2) (by decide)
  have a3 := fig_ex hT h3
  have a4 := lt_in hT (Decidable.of_not_not h4) (by decide)
  have a5 := fig_ex hT h5
  rw [a1.2.2.2, a3.2.2.2, a5.2.2.2] at h
  simp only [Nat.add_assoc, Nat.reduceAdd] at a1 a2 a3 a4 a5 h
  split at h
  · rename_i h6
    have a6 := lt_in hT h6 (by decide)
    split at h
    · exact (nso h).elim
    rename_i h7
    have a7 := fig_ex hT h7
    rw [a7.2.2.2] at h
    split at h
    · rename_i h8
      have a8 := lt_in hT h8 (by decide)
      split at h
      · exact (nso h).elim
      rename_i h9
      have a9 := fig_ex hT h9
      rw [a9.2.2.2] at h
      split at h
      · rename_i h10
        have a10 := lt_in hT h10 (by decide)
        have hz := riT_to h
        rw [Nat.add_sub_cancel, Nat.add_sub_cancel, Nat.add_sub_cancel] at hz
        refine ⟨5, ⟨by omega, by omega, a10.1, a10.2, ⟨a1.2.1, a1.2.2.1⟩, ⟨a3.2.1, a3.2.2.1⟩, ⟨a5.2.1, a5.2.2.1⟩, fun _ => ⟨a7.2.1, a7.2.2.1⟩, fun _ => ⟨a9.2.1, a9.2.2.1⟩, a2.2, a4.2, fun _ => a6.2, fun _ => a8.2⟩, hz.1, ?_⟩
        rw [hz.2]
        rfl
      · exact (nso h).elim
    · split at h
      · rename_i h8
        have a8 := lt_in hT h8 (by decide)
        have hz := riT_to h
        rw [Nat.add_sub_cancel, Nat.add_sub_cancel, Nat.add_sub_cancel] at hz
        refine ⟨4, ⟨by omega, by omega, a8.1, a8.2, ⟨a1.2.1, a1.2.2.1⟩, ⟨a3.2.1, a3.2.2.1⟩, ⟨a5.2.1, a5.2.2.1⟩, fun _ => ⟨a7.2.1, a7.2.2.1⟩, fun z => absurd z (by omega), a2.2, a4.2, fun _ => a6.2, fun z => absurd z (by omega)⟩, hz.1, ?_⟩
        rw [hz.2]
        rfl
      · exact (nso h).elim
  · split at h
    · rename_i h6
      have a6 := lt_in hT h6 (by decide)
      have hz := riT_to h
      rw [Nat.add_sub_cancel, Nat.add_sub_cancel, Nat.add_sub_cancel] at hz
      refine ⟨3, ⟨by omega, by omega, a6.1, a6.2, ⟨a1.2.1, a1.2.2.1⟩, ⟨a3.2.1, a3.2.2.1⟩, ⟨a5.2.1, a5.2.2.1⟩, fun z => absurd z (by omega), fun z => absurd z (by omega), a2.2, a4.2, fun z => absurd z (by omega), fun z => absurd z (by omega)⟩, hz.1, ?_⟩
      rw [hz.2]
      rfl
    · exact (nso h).elim
theorem riM_of {ft T : Nat → Nat} {le a m : Nat} {E : Nat → Nat} (hT : ∀ i, i < le → T i = ft i) (h : rTx T le a m (E 0) (E 1)) (hr : hrC E (T (a + 1) - 48) (T (a + 3) - 48) (E 4) < 3 ∧ E 4 < 16) : ∃ q, riM ft le E (a + 1) = some q := by
  obtain ⟨m3, m5, hl, ht, t1, t3, t5, t7, t9, t2, t4, t6, t8⟩ := h
  have f1 : fig (ltr ft le (a + 1)) (E 0) = T (a + 1) - 48 + 1 := fig_of hT (by omega) t1.1 t1.2
  have c2 : ltr ft le (a + 1 + 1) = 44 := (lt_of hT (by omega)).trans t2
  have f3 : fig (ltr ft le (a + 1 + 1 + 1)) (E 1) = T (a + 3) - 48 + 1 := fig_of hT (by omega) t3.1 t3.2
  have c4 : ltr ft le (a + 1 + 1 + 1 + 1) = 44 := (lt_of hT (by omega)).trans t4
  have f5 : fig (ltr ft le (a + 1 + 1 + 1 + 1 + 1)) (E 0) = T (a + 5) - 48 + 1 := fig_of hT (by omega) t5.1 t5.2
  have hT' : ∀ sp c u v, ∃ q, riT E sp (T (a + 1) - 48 + 1) (T (a + 3) - 48 + 1) c u v = some q := fun sp c u v => by
    unfold riT
    rw [Nat.add_sub_cancel, Nat.add_sub_cancel, if_pos hr]
    exact ⟨_, rfl⟩
  unfold riM
  rw [if_neg (by omega), if_neg (by omega), if_neg (by omega), if_neg (by omega), if_neg (by omega), f1, f3]
  rcases (show m = 3 ∨ m = 4 ∨ m = 5 by omega) with hm | hm | hm
  · subst hm
    have c6 : ltr ft le (a + 1 + 1 + 1 + 1 + 1 + 1) = 59 := (lt_of hT (by omega)).trans ht
    rw [if_neg (by omega), if_pos c6]
    exact hT' _ _ _ _
  · subst hm
    have c6 : ltr ft le (a + 1 + 1 + 1 + 1 + 1 + 1) = 44 := (lt_of hT (by omega)).trans (t6 (by omega))
    have f7 : fig (ltr ft le (a + 1 + 1 + 1 + 1 + 1 + 1 + 1)) (E 1) = T (a + 7) - 48 + 1 := fig_of hT (by omega) (t7 (by omega)).1 (t7 (by omega)).2
    have c8 : ltr ft le (a + 1 + 1 + 1 + 1 + 1 + 1 + 1 + 1) = 59 := (lt_of hT (by omega)).trans ht
    rw [if_pos c6, if_neg (by omega), if_neg (by omega), if_pos c8]
    exact hT' _ _ _ _
  · subst hm
    have c6 : ltr ft le (a + 1 + 1 + 1 + 1 + 1 + 1) = 44 := (lt_of hT (by omega)).trans (t6 (by omega))
    have f7 : fig (ltr ft le (a + 1 + 1 + 1 + 1 + 1 + 1 + 1)) (E 1) = T (a + 7) - 48 + 1 := fig_of hT (by omega) (t7 (by omega)).1 (t7 (by omega)).2
    have c8 : ltr ft le (a + 1 + 1 + 1 + 1 + 1 + 1 + 1 + 1) = 44 := (lt_of hT (by omega)).trans (t8 (by omega))
    have f9 : fig (ltr ft le (a + 1 + 1 + 1 + 1 + 1 + 1 + 1 + 1 + 1)) (E 1) = T (a + 9) - 48 + 1 := fig_of hT (by omega) (t9 (by omega)).1 (t9 (by omega)).2
    have c10 : ltr ft le (a + 1 + 1 + 1 + 1 + 1 + 1 + 1 + 1 + 1 + 1) = 59 := (lt_of hT (by omega)).trans ht
    rw [if_pos c6, if_neg (by omega), if_pos c8, if_neg (by omega), if_pos c10]
    exact hT' _ _ _ _
end Rel5
