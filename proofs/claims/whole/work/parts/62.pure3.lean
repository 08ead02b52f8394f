/-! A round keeps the relation, and changes something on both sides or on none -/
section Pure3
def vld (P x : Nat) : Prop := ∀ V, V < 16 → x.testBit V = true → ∀ v, v < 4 → V.testBit v = true → v < P
theorem vld_or {P x y : Nat} (h : vld P x) (h' : vld P y) : vld P (x ||| y) := by
  intro V hV hx v hv h1
  rw [Nat.testBit_or, Bool.or_eq_true] at hx
  rcases hx with hx | hx
  · exact h V hV hx v hv h1
  · exact h' V hV hx v hv h1
theorem vld_0 (P : Nat) : vld P 0 := by
  intro V _ hx
  rw [Nat.zero_testBit] at hx; cases hx
theorem vld_1 (P : Nat) : vld P 1 := by
  intro V hV hx v hv h1
  have h2 : (1 : Nat) = 1 <<< 0 := rfl
  rw [h2, tb_sh, decide_eq_true_eq] at hx
  subst hx
  rw [Nat.zero_testBit] at h1; cases h1
theorem vld_un {P x y : Nat} (h : vld P x) (h' : vld P y) : vld P (unO x y 16) := by
  intro V hV hx v hv h1
  obtain ⟨u, g1, g2, w, g3, g4, g5⟩ := (unO_bit x y V 16).mp hx
  subst g5
  rw [Nat.testBit_or, Bool.or_eq_true] at h1
  rcases h1 with h1 | h1
  · exact h u g1 g2 v hv h1
  · exact h' w g3 g4 v hv h1
theorem vld_mi {P x : Nat} (h : vld P x) : vld P (miO x 16) := by
  intro V hV hx
  exact h V hV ((miO_bit x V (by omega) 16).mp hx).1
theorem vld_yV {P Y lo s a0 : Nat} {B : Nat → Nat} (hlo : lo < Y) (hs : ∀ v, v < 4 → s.testBit v = true → v < P) (hB : ∀ p, p < P → ∀ y, y < Y → vld P (B (3 * p + y))) (h0 : vld P a0) : ∀ n, n ≤ 4 → vld P (yV B lo s a0 n)
  | 0, _ => h0
  | n + 1, hn => by
    have ih := vld_yV hlo hs hB h0 n (by omega)
    unfold yV
    split
    · exact vld_0 P
    · split
      · rename_i hc
        exact vld_un ih (hB n (hs n (by omega) (tb_1.mp hc)) lo hlo)
      · exact ih
theorem vld_yS {P Y lo ab : Nat} {B : Nat → Nat} (hlo : lo < Y) (hab : vld P ab) (hB : ∀ p, p < P → ∀ y, y < Y → vld P (B (3 * p + y))) : vld P (yS B ab lo 16) := by
  intro V hV hx
  obtain ⟨s, g1, g2⟩ := (yS_bit B ab lo V 16).mp hx
  cases hb : ab.testBit s
  · rw [bt_f hb, yV_0, Nat.zero_testBit] at g2
    cases g2
  · rw [bt_t hb] at g2
    exact vld_yV hlo (fun v hv h => hab s g1 hb v hv h) hB (vld_1 P) 4 (Nat.le_refl _) V hV g2
theorem vld_sh {P q : Nat} (hq : q < P) : vld P (1 <<< (1 <<< q)) := by
  intro V hV hx v hv h1
  rw [tb_sh, decide_eq_true_eq] at hx
  subst hx
  rw [tb_sh, decide_eq_true_eq] at h1
  omega
theorem famR_vld {P Y : Nat} {A B : Nat → Nat} (hf : famR P Y A B) : ∀ p, p < P → ∀ y, y < Y → vld P (B (3 * p + y)) := fun p hp y hy => (hf p hp y hy).2.2
theorem y_vld {A B Fc F : Nat → Nat} {P Y n i : Nat} (hr : ruR P Y n Fc F) (hf : famR P Y A B) (hi : i < n) : vld P (yM F B i) := by
  obtain ⟨r0, r1, r2, r3, r4, v0, v1, v2, v3, v4, v5⟩ := hr i hi
  unfold yM
  rw [r2, r3, r4]
  split
  · exact vld_1 P
  · split
    · exact vld_sh v2
    · split
      · exact famR_vld hf _ v2 _ (by omega)
      · exact vld_yS (by omega) (famR_vld hf _ v2 _ (by omega)) (famR_vld hf)
theorem upR_congr {a a' b : Nat} (h : upR a b) (he : ∀ U, U < 16 → a'.testBit U = a.testBit U) : upR a' b := by
  intro U hU
  rw [he U hU]
  exact h U hU
theorem all_and {x U : Nat} (hU : U < 16) : (65535 &&& x).testBit U = x.testBit U := by
  rw [Nat.testBit_and, all16 U hU, Bool.true_and]
/-- the rules of a pair, gone through up to r -/
theorem ft_up {A B Fc F : Nat → Nat} {P Y n o t p y : Nat} (hP : P ≤ 4) (hp : p < P) (hy : y < Y) (hY : Y ≤ 3) (hr : ruR P Y n Fc F) (ht : F 3 = t) (ho : F 2 = o) (hf : famR P Y A B) : ∀ r, r ≤ n →
    fHas Fc (p + 4 * y) r = ftA F p y r ∧ vld P (ftS F B p y r) ∧ (ftA F p y r = 0 → ftS F B p y r = 0 ∧ fAny t A Fc (p + 4 * y) r = 0 ∧ fAll t A Fc (p + 4 * y) r = 65535) ∧ (ftA F p y r ≠ 0 → (bt o p = 1 → upR (fAll t A Fc (p + 4 * y) r) (ftS F B p y r)) ∧ (bt o p ≠ 1 → upR (fAny t A Fc (p + 4 * y) r) (ftS F B p y r)))
  | 0, _ => ⟨rfl, vld_0 P, fun _ => ⟨rfl, rfl, rfl⟩, fun h => absurd rfl h⟩
  | r + 1, hn => by
    obtain ⟨i1, i2, i3, i4⟩ := ft_up hP hp hy hY hr ht ho hf r (by omega)
    obtain ⟨r0, r1, -⟩ := hr r (by omega)
    have hyu := y_up (i := r) hP hr ht hf (by omega)
    have hyv := y_vld hr hf (show r < n by omega)
    have hm : (Fc r % 16 = p + 4 * y) ↔ (F (5 + 5 * r) = p ∧ F (5 + 5 * r + 1) = y) := by rw [r0, r1]; omega
    unfold fHas ftA ftS fAny fAll
    by_cases hc : Fc r % 16 = p + 4 * y
    · have hc2 := hm.mp hc
      rw [if_pos hc, if_pos hc, if_pos hc, if_pos hc2, if_pos hc2]
      refine ⟨rfl, ?_, fun h => absurd h (by decide), fun _ => ?_⟩
      · split
        · exact hyv
        · split
          · exact vld_un i2 hyv
          · exact vld_or i2 hyv
      · by_cases h0 : ftA F p y r = 0
        · obtain ⟨j1, j2, j3⟩ := i3 h0
          rw [if_pos h0, j2, j3]
          refine ⟨fun _ => upR_congr hyu (fun U hU => all_and hU), fun _ => ?_⟩
          rw [Nat.zero_or]; exact hyu
        · obtain ⟨j1, j2⟩ := i4 h0
          rw [if_neg h0, ho]
          refine ⟨fun hb => ?_, fun hb => ?_⟩
          · rw [if_pos hb]; exact upR_and (j1 hb) hyu
          · rw [if_neg hb]; exact upR_or (j2 hb) hyu
    · have hc2 : ¬ (F (5 + 5 * r) = p ∧ F (5 + 5 * r + 1) = y) := fun h => hc (hm.mpr h)
      rw [if_neg hc, if_neg hc, if_neg hc, if_neg hc2, if_neg hc2]
      exact ⟨i1, i2, i3, i4⟩
theorem anti_1 : anti 1 := by
  intro u hu h
  have h2 : (1 : Nat) = 1 <<< 0 := rfl
  rw [h2, tb_sh, decide_eq_true_eq] at h
  subst h
  refine ⟨rfl, fun v hv hne h3 => ?_⟩
  rw [h2, tb_sh, decide_eq_true_eq] at h3
  exact absurd h3.symm hne
theorem nx_up {A B Fc F : Nat → Nat} {P Y n o t p y : Nat} (hP : P ≤ 4) (hp : p < P) (hy : y < Y) (hY : Y ≤ 3) (hr : ruR P Y n Fc F) (ht : F 3 = t) (ho : F 2 = o) (hn : F 4 = n) (hf : famR P Y A B) : upR (fNx o t n A Fc p (p + 4 * y)) (ftM F B p y) ∧ anti (ftM F B p y) ∧ vld P (ftM F B p y) := by
  obtain ⟨i1, i2, i3, i4⟩ := ft_up hP hp hy hY hr ht ho hf n (Nat.le_refl _)
  unfold fNx ftM
  rw [ht, hn]
  by_cases h1 : bt t p = 1
  · rw [if_pos h1, if_pos h1]; exact ⟨upR_all, anti_1, vld_1 P⟩
  · rw [if_neg h1, if_neg h1]
    refine ⟨?_, miO_anti _, vld_mi i2⟩
    by_cases h2 : bt o p = 1
    · rw [if_pos h2, i1]
      by_cases h3 : ftA F p y n = 0
      · rw [if_pos h3, (i3 h3).1]; exact upR_min upR_none
      · rw [if_neg h3]; exact upR_min ((i4 h3).1 h2)
    · rw [if_neg h2]
      by_cases h3 : ftA F p y n = 0
      · rw [(i3 h3).1, (i3 h3).2.1]; exact upR_min upR_none
      · exact upR_min ((i4 h3).2 h2)
/-- both change, or none -/
theorem ch_eq {A B Fc F : Nat → Nat} {P Y n o t : Nat} (hP : P ≤ 4) (hY : Y ≤ 3) (hr : ruR P Y n Fc F) (h0 : F 0 = P) (h1 : F 1 = Y) (ht : F 3 = t) (ho : F 2 = o) (hn : F 4 = n) (hA : ∀ i, A i < 65536) (hB : ∀ i, B i < 65536) (hru : mRu F) (hf : famR P Y A B) : chg o t n P A Fc Y 0 = chM F B (F 0) 0 := by
  have key : ∀ p, p < P → ∀ y, y < Y → (fNx o t n A Fc p (p + 4 * y) = A (p + 4 * y) ↔ ftM F B p y = B (3 * p + y)) := by
    intro p hp y hy
    obtain ⟨k1, k2, k3⟩ := nx_up hP hp hy hY hr ht ho hn hf
    obtain ⟨f1, f2, f3⟩ := hf p hp y hy
    constructor
    · intro h
      rw [h] at k1
      exact upR_inj (ftM_lt hru hB) (hB _) k1 f1 k2 f2
    · intro h
      rw [h] at k1
      exact upR_fun (fNx_lt hA) (hA _) k1 f1
  rw [Bool.eq_iff_iff, chg_iff, chM_iff, h0, h1]
  constructor
  · rintro ⟨i, g1, g2, g3⟩
    refine ⟨3 * (i % 4) + i / 4, by omega, by omega, ?_⟩
    have e1 : (3 * (i % 4) + i / 4) / 3 = i % 4 := by omega
    have e2 : (3 * (i % 4) + i / 4) % 3 = i / 4 := by omega
    rw [e1, e2]
    intro h
    have h3 := (key (i % 4) (by omega) (i / 4) (by omega)).mpr h
    rw [show i % 4 + 4 * (i / 4) = i by omega] at h3
    exact g3 h3
  · rintro ⟨i, g1, g2, g3⟩
    refine ⟨i / 3 + 4 * (i % 3), by omega, by omega, ?_⟩
    have e1 : (i / 3 + 4 * (i % 3)) % 4 = i / 3 := by omega
    rw [e1]
    intro h
    have h3 := (key (i / 3) (by omega) (i % 3) (by omega)).mp h
    rw [show 3 * (i / 3) + i % 3 = i by omega] at h3
    exact g3 h3
end Pure3
