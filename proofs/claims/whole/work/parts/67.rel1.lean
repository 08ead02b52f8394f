section Rel1
/-- the solver's game and the model's row are the same game -/
def gR (g : GT) (F : Nat → Nat) : Prop := gmR g.1 g.2.1 g.2.2.1 g.2.2.2.1 g.2.2.2.2.1 g.2.2.2.2.2.1 F ∧ skR g.2.1 g.2.2.2.2.2.2.2.1 g.2.2.2.2.2.2.2.2 F ∧ F 85 = g.2.2.2.2.2.2.1 ∧ g.2.2.2.2.2.2.1 < g.1 ∧ 1 ≤ g.2.1 ∧ (∀ w, w < 4 → (g.2.2.2.1).testBit w = true → w < g.1) ∧ (∀ i, i < g.2.2.2.2.1 → g.2.2.2.2.2.1 i / 64 % 4 = 0 → g.2.2.2.2.2.1 i / 256 % 4 = 0) ∧ g.2.2.2.2.2.2.2.1 < 4 ^ g.2.2.2.2.2.2.2.2 ∧ ∀ i, F i < 65536
theorem ruR_congr {P Y n : Nat} {Fc Fc' F F' : Nat → Nat} (h : ruR P Y n Fc F) (e : ∀ i, i < n → ∀ c, c < 5 → F' (5 + 5 * i + c) = F (5 + 5 * i + c)) (e2 : ∀ i, i < n → Fc' i = Fc i) : ruR P Y n Fc' F' := by
  intro i hi
  rw [e2 i hi, e i hi 1 (by omega), e i hi 2 (by omega), e i hi 3 (by omega), e i hi 4 (by omega)]
  have h0 := e i hi 0 (by omega)
  rw [Nat.add_zero] at h0
  rw [h0]
  exact h i hi
theorem skR_congr {Y S h : Nat} {F F' : Nat → Nat} (hs : skR Y S h F) (e0 : F' 86 = F 86) (e : ∀ k, k < h → F' (87 + k) = F (87 + k)) : skR Y S h F' := by
  refine ⟨e0.trans hs.1, fun k hk => ?_⟩
  rw [e k hk]
  exact hs.2 k hk
theorem gR_congr {g : GT} {F F' : Nat → Nat} (h : gR g F) (hn : g.2.2.2.2.1 ≤ 16) (hh : g.2.2.2.2.2.2.2.2 ≤ 12) (e : ∀ i, i < 99 → F' i = F i) (hb : ∀ i, F' i < 65536) : gR g F' := by
  obtain ⟨⟨hP, hY, e0, e1, e2, e3, e4, hr⟩, hs, e85, hq, hY1, htP, huv, hS4, hFb⟩ := h
  exact ⟨⟨hP, hY, by rw [e 0 (by omega)]; exact e0, by rw [e 1 (by omega)]; exact e1, by rw [e 2 (by omega)]; exact e2, by rw [e 3 (by omega)]; exact e3, by rw [e 4 (by omega)]; exact e4, ruR_congr hr (fun i hi c hc => e _ (by omega)) (fun _ _ => rfl)⟩, skR_congr hs (e 86 (by omega)) (fun k hk => e _ (by omega)), by rw [e 85 (by omega)]; exact e85, hq, hY1, htP, huv, hS4, hb⟩
theorem gR_cls {P Y o t n q S h : Nat} {Fc Fc' F : Nat → Nat} (hR : gR (P, Y, o, t, n, Fc, q, S, h) F) (e : ∀ i, i < n → Fc' i = Fc i) : gR (P, Y, o, t, n, Fc', q, S, h) F := by
  obtain ⟨⟨hP, hY, e0, e1, e2, e3, e4, hr⟩, hs, e85, hq, hY1, htP, huv, hS4, hFb⟩ := hR
  exact ⟨⟨hP, hY, e0, e1, e2, e3, e4, ruR_congr hr (fun _ _ _ _ => rfl) e⟩, hs, e85, hq, hY1, htP, fun i hi => by
    show Fc' i / 64 % 4 = 0 → Fc' i / 256 % 4 = 0
    rw [e i hi]; exact huv i hi, hS4, hFb⟩
theorem rel_own {P Y o t n q S h j b : Nat} {Fc F : Nat → Nat} (hR : gR (P, Y, o, t, n, Fc, q, S, h) F) (ho : o < 16) (hj : j < P) (hb : b < 2) : gR (P, Y, wbit o j b, t, n, Fc, q, S, h) (updN F 2 (wbit (F 2) j b)) := by
  obtain ⟨⟨hP, hY, e0, e1, e2, e3, e4, hr⟩, hs, e85, hq, hY1, htP, huv, hS4, hFb⟩ := hR
  have hP4 : P ≤ 4 := hP
  have e : ∀ i, i ≠ 2 → updN F 2 (wbit (F 2) j b) i = F i := fun i hi => updN_n _ _ _ hi
  have ew : F 2 = o := e2
  refine ⟨⟨hP, hY, (e 0 (by omega)).trans e0, (e 1 (by omega)).trans e1, by rw [updN_s, ew], (e 3 (by omega)).trans e3, (e 4 (by omega)).trans e4, ruR_congr hr (fun i hi c hc => e _ (by omega)) (fun _ _ => rfl)⟩, skR_congr hs (e 86 (by omega)) (fun k hk => e _ (by omega)), (e 85 (by omega)).trans e85, hq, hY1, htP, huv, hS4, fun i => ?_⟩
  exact upd_lt hFb (by have := wbit_lt (F 2) (by omega) j (by omega) b hb; omega) i
theorem wb_tP {t j b P : Nat} (ht : t < 16) (hj : j < P) (hP : P ≤ 4) (hb : b < 2) (h : ∀ w, w < 4 → t.testBit w = true → w < P) : ∀ w, w < 4 → (wbit t j b).testBit w = true → w < P := by
  have key : ∀ t : Nat, t < 16 → ∀ j : Nat, j < 4 → ∀ b : Nat, b < 2 → ∀ w : Nat, w < 4 → (!(wbit t j b).testBit w || t.testBit w || decide (w = j)) = true := by decide +kernel
  intro w hw hz
  have h1 := key t ht j (by omega) b hb w hw
  rw [hz] at h1
  simp only [Bool.not_true, Bool.false_or, Bool.or_eq_true, decide_eq_true_eq] at h1
  rcases h1 with h1 | h1
  · exact h w hw h1
  · omega
theorem rel_tgt {P Y o t n q S h j b : Nat} {Fc F : Nat → Nat} (hR : gR (P, Y, o, t, n, Fc, q, S, h) F) (ht : t < 16) (hj : j < P) (hb : b < 2) : gR (P, Y, o, wbit t j b, n, Fc, q, S, h) (updN F 3 (wbit (F 3) j b)) := by
  obtain ⟨⟨hP, hY, e0, e1, e2, e3, e4, hr⟩, hs, e85, hq, hY1, htP, huv, hS4, hFb⟩ := hR
  have hP4 : P ≤ 4 := hP
  have e : ∀ i, i ≠ 3 → updN F 3 (wbit (F 3) j b) i = F i := fun i hi => updN_n _ _ _ hi
  have ew : F 3 = t := e3
  refine ⟨⟨hP, hY, (e 0 (by omega)).trans e0, (e 1 (by omega)).trans e1, (e 2 (by omega)).trans e2, by rw [updN_s, ew], (e 4 (by omega)).trans e4, ruR_congr hr (fun i hi c hc => e _ (by omega)) (fun _ _ => rfl)⟩, skR_congr hs (e 86 (by omega)) (fun k hk => e _ (by omega)), (e 85 (by omega)).trans e85, hq, hY1, wb_tP ht hj hP hb htP, huv, hS4, fun i => ?_⟩
  exact upd_lt hFb (by have := wbit_lt (F 3) (by omega) j (by omega) b hb; omega) i
theorem rel_place {P Y o t n q S h j : Nat} {Fc F : Nat → Nat} (hR : gR (P, Y, o, t, n, Fc, q, S, h) F) (hn : n ≤ 16) (hj : j < P) : gR (P, Y, o, t, n, Fc, j, 0, 0) (updN (updN F 85 j) 86 0) := by
  obtain ⟨⟨hP, hY, e0, e1, e2, e3, e4, hr⟩, hs, e85, hq, hY1, htP, huv, hS4, hFb⟩ := hR
  have hP4 : P ≤ 4 := hP
  have e : ∀ i, i ≠ 85 → i ≠ 86 → updN (updN F 85 j) 86 0 i = F i := fun i h1 h2 => by rw [updN_n _ _ _ h2, updN_n _ _ _ h1]
  refine ⟨⟨hP, hY, (e 0 (by omega) (by omega)).trans e0, (e 1 (by omega) (by omega)).trans e1, (e 2 (by omega) (by omega)).trans e2, (e 3 (by omega) (by omega)).trans e3, (e 4 (by omega) (by omega)).trans e4, ruR_congr hr (fun i hi c hc => e _ (by have hi2 : i < n := hi; omega) (by have hi2 : i < n := hi; omega)) (fun _ _ => rfl)⟩, ⟨updN_s _ _ _, fun k hk => absurd hk (Nat.not_lt_zero _)⟩, by rw [updN_n _ _ _ (by omega), updN_s], hj, hY1, htP, huv, (by decide : (0 : Nat) < 4 ^ 0), fun i => ?_⟩
  exact upd_lt (fun i => upd_lt hFb (by omega) i) (by omega) i
theorem dig_push {S j h k : Nat} (hj : j < 4) (hk : k < h) : (4 * S + j) / 4 ^ (h + 1 - 1 - k) % 4 = S / 4 ^ (h - 1 - k) % 4 := by
  rw [show h + 1 - 1 - k = (h - 1 - k) + 1 by omega, Nat.pow_succ, Nat.mul_comm (4 ^ (h - 1 - k)) 4, ← Nat.div_div_eq_div_mul, show (4 * S + j) / 4 = S by omega]
theorem rel_push {P Y o t n q S h j : Nat} {Fc F : Nat → Nat} (hR : gR (P, Y, o, t, n, Fc, q, S, h) F) (hn : n ≤ 16) (hh : h < 12) (hj : j < Y) : gR (P, Y, o, t, n, Fc, q, 4 * S + j, h + 1) (updN (updN F (87 + F 86) j) 86 (F 86 + 1)) := by
  obtain ⟨⟨hP, hY, e0, e1, e2, e3, e4, hr⟩, ⟨e86, hs⟩, e85, hq, hY1, htP, huv, hS4, hFb⟩ := hR
  have hY3 : Y ≤ 3 := hY
  have e86' : F 86 = h := e86
  rw [e86']
  have e : ∀ i, i ≠ 87 + h → i ≠ 86 → updN (updN F (87 + h) j) 86 (h + 1) i = F i := fun i h1 h2 => by rw [updN_n _ _ _ h2, updN_n _ _ _ h1]
  refine ⟨⟨hP, hY, (e 0 (by omega) (by omega)).trans e0, (e 1 (by omega) (by omega)).trans e1, (e 2 (by omega) (by omega)).trans e2, (e 3 (by omega) (by omega)).trans e3, (e 4 (by omega) (by omega)).trans e4, ruR_congr hr (fun i hi c hc => e _ (by have hi2 : i < n := hi; omega) (by have hi2 : i < n := hi; omega)) (fun _ _ => rfl)⟩, ⟨updN_s _ _ _, fun k hk => ?_⟩, (e 85 (by omega) (by omega)).trans e85, hq, hY1, htP, huv, ?_, fun i => ?_⟩
  · have hk2 : k < h + 1 := hk
    show updN (updN F (87 + h) j) 86 (h + 1) (87 + k) = (4 * S + j) / 4 ^ (h + 1 - 1 - k) % 4 ∧ updN (updN F (87 + h) j) 86 (h + 1) (87 + k) < Y
    by_cases hkh : k = h
    · subst hkh
      rw [updN_n _ _ _ (by omega), updN_s, show k + 1 - 1 - k = 0 by omega, Nat.pow_zero, Nat.div_one]
      exact ⟨by omega, hj⟩
    · rw [e _ (by omega) (by omega), dig_push (by omega) (by omega)]
      exact hs k (by show k < h; omega)
  · show 4 * S + j < 4 ^ (h + 1)
    have hS5 : S < 4 ^ h := hS4
    rw [Nat.pow_succ]
    omega
  · exact upd_lt (fun i => upd_lt hFb (by omega) i) (by omega) i
theorem rel_add {P Y o t n q S h a b c u v : Nat} {Fc F : Nat → Nat} (hR : gR (P, Y, o, t, n, Fc, q, S, h) F) (hn : n < 16) (ha : a < P) (hb : b < Y) (hc : c < P) (hu : u ≤ Y) (hv : v ≤ Y) (huv0 : u = 0 → v = 0) : gR (P, Y, o, t, n + 1, updN Fc n (rcode a b c u v), q, S, h) (ruF F a b c u v) := by
  obtain ⟨⟨hP, hY, e0, e1, e2, e3, e4, hr⟩, hs, e85, hq, hY1, htP, huv, hS4, hFb⟩ := hR
  have hP4 : P ≤ 4 := hP
  have hY3 : Y ≤ 3 := hY
  have e4' : F 4 = n := e4
  have e : ∀ i, i ≠ 4 → (i < 5 + 5 * n ∨ 10 + 5 * n ≤ i) → ruF F a b c u v i = F i := fun i h1 h2 => by
    unfold ruF
    rw [e4']
    (repeat rw [updN_n _ _ _ (by omega)])
  have r0 : ruF F a b c u v (5 + 5 * n) = a := by
    unfold ruF; rw [e4', updN_n _ _ _ (by omega), updN_n _ _ _ (by omega), updN_n _ _ _ (by omega), updN_n _ _ _ (by omega), updN_n _ _ _ (by omega), updN_s]
  have r1 : ruF F a b c u v (5 + 5 * n + 1) = b := by
    unfold ruF; rw [e4', updN_n _ _ _ (by omega), updN_n _ _ _ (by omega), updN_n _ _ _ (by omega), updN_n _ _ _ (by omega), updN_s]
  have r2 : ruF F a b c u v (5 + 5 * n + 2) = c := by
    unfold ruF; rw [e4', updN_n _ _ _ (by omega), updN_n _ _ _ (by omega), updN_n _ _ _ (by omega), updN_s]
  have r3 : ruF F a b c u v (5 + 5 * n + 3) = u := by
    unfold ruF; rw [e4', updN_n _ _ _ (by omega), updN_n _ _ _ (by omega), updN_s]
  have r4 : ruF F a b c u v (5 + 5 * n + 4) = v := by
    unfold ruF; rw [e4', updN_n _ _ _ (by omega), updN_s]
  have hcd : ∀ a : Nat, a < 4 → ∀ b : Nat, b < 4 → ∀ c : Nat, c < 4 → ∀ u : Nat, u < 4 → ∀ v : Nat, v < 4 → rcode a b c u v % 4 = a ∧ rcode a b c u v / 4 % 4 = b ∧ rcode a b c u v / 16 % 4 = c ∧ rcode a b c u v / 64 % 4 = u ∧ rcode a b c u v / 256 % 4 = v := by
    intro a ha b hb c hc u hu v hv
    unfold rcode
    omega
  obtain ⟨c0, c1, c2, c3, c4⟩ := hcd a (by omega) b (by omega) c (by omega) u (by omega) v (by omega)
  refine ⟨⟨hP, hY, (e 0 (by omega) (by omega)).trans e0, (e 1 (by omega) (by omega)).trans e1, (e 2 (by omega) (by omega)).trans e2, (e 3 (by omega) (by omega)).trans e3, by rw [ruF_4, e4'], fun i hi => ?_⟩, skR_congr hs (e 86 (by omega) (by omega)) (fun k hk => e _ (by omega) (by omega)), (e 85 (by omega) (by omega)).trans e85, hq, hY1, htP, fun i hi => ?_, hS4, fun i => ?_⟩
  · have hi2 : i < n + 1 := hi
    dsimp only
    by_cases hin : i = n
    · subst hin
      rw [r0, r1, r2, r3, r4, updN_s, c0, c1, c2, c3, c4]
      exact ⟨rfl, rfl, rfl, rfl, rfl, ha, hb, hc, hu, hv, rcode_lt (by omega) (by omega) (by omega) (by omega) (by omega)⟩
    · rw [e _ (by omega) (by omega), e _ (by omega) (by omega), e _ (by omega) (by omega), e _ (by omega) (by omega), e _ (by omega) (by omega), updN_n _ _ _ hin]
      exact hr i (by show i < n; omega)
  · have hi2 : i < n + 1 := hi
    show updN Fc n (rcode a b c u v) i / 64 % 4 = 0 → updN Fc n (rcode a b c u v) i / 256 % 4 = 0
    by_cases hin : i = n
    · subst hin
      rw [updN_s, c3, c4]
      exact huv0
    · rw [updN_n _ _ _ hin]
      exact huv i (by show i < n; omega)
  · unfold ruF
    exact upd_lt (fun i => upd_lt (fun i => upd_lt (fun i => upd_lt (fun i => upd_lt (fun i => upd_lt hFb (by omega) i) (by omega) i) (by omega) i) (by omega) i) (by omega) i) (by rw [e4']; omega) i
theorem rel_rm {P Y o t n q S h j : Nat} {Fc F : Nat → Nat} (hR : gR (P, Y, o, t, n, Fc, q, S, h) F) (hn : n ≤ 16) (hj : j < n) : gR (P, Y, o, t, n - 1, drpN Fc j n, q, S, h) (rmF F j (5 + 5 * (F 4 - 1))) := by
  obtain ⟨⟨hP, hY, e0, e1, e2, e3, e4, hr⟩, hs, e85, hq, hY1, htP, huv, hS4, hFb⟩ := hR
  have e4' : F 4 = n := e4
  rw [e4']
  have e : ∀ i, i ≠ 4 → (i < 5 + 5 * j ∨ 5 + 5 * (n - 1) ≤ i) → rmF F j (5 + 5 * (n - 1)) i = F i := fun i h1 h2 => by
    unfold rmF
    rw [if_neg (by omega), if_neg h1]
  refine ⟨⟨hP, hY, (e 0 (by omega) (by omega)).trans e0, (e 1 (by omega) (by omega)).trans e1, (e 2 (by omega) (by omega)).trans e2, (e 3 (by omega) (by omega)).trans e3, ?_, fun i hi => ?_⟩, skR_congr hs (e 86 (by omega) (by omega)) (fun k hk => e _ (by omega) (by omega)), (e 85 (by omega) (by omega)).trans e85, hq, hY1, htP, fun i hi => ?_, hS4, fun i => ?_⟩
  · show rmF F j (5 + 5 * (n - 1)) 4 = n - 1
    unfold rmF
    rw [if_neg (by omega), if_pos rfl, e4']
  · have hi2 : i < n - 1 := hi
    dsimp only
    by_cases hij : i < j
    · rw [e _ (by omega) (by omega), e _ (by omega) (by omega), e _ (by omega) (by omega), e _ (by omega) (by omega), e _ (by omega) (by omega), show drpN Fc j n i = Fc i by unfold drpN; rw [if_neg (by omega)]]
      exact hr i (by show i < n; omega)
    · have q0 : ∀ c, c < 5 → rmF F j (5 + 5 * (n - 1)) (5 + 5 * i + c) = F (5 + 5 * (i + 1) + c) := fun c hc => by
        unfold rmF
        rw [if_pos (by omega)]
        congr 1
        omega
      have q1 := q0 0 (by omega)
      rw [Nat.add_zero, Nat.add_zero] at q1
      rw [q1, q0 1 (by omega), q0 2 (by omega), q0 3 (by omega), q0 4 (by omega), show drpN Fc j n i = Fc (i + 1) by unfold drpN; rw [if_pos (by omega)]]
      exact hr (i + 1) (by show i + 1 < n; omega)
  · have hi2 : i < n - 1 := hi
    show drpN Fc j n i / 64 % 4 = 0 → drpN Fc j n i / 256 % 4 = 0
    unfold drpN
    split
    · exact huv (i + 1) (by show i + 1 < n; omega)
    · exact huv i (by show i < n; omega)
  · unfold rmF
    split
    · exact hFb _
    · split
      · rw [e4']; omega
      · exact hFb _
end Rel1
