section Rel2
theorem rel_pop {P Y o t n q S h : Nat} {Fc F : Nat → Nat} (hR : gR (P, Y, o, t, n, Fc, q, S, h) F) (hn : n ≤ 16) (hh : 1 ≤ h) : gR (P, Y, o, t, n, Fc, q, S / 4, h - 1) (updN F 86 (F 86 - 1)) := by
  obtain ⟨⟨hP, hY, e0, e1, e2, e3, e4, hr⟩, ⟨e86, hs⟩, e85, hq, hY1, htP, huv, hS4, hFb⟩ := hR
  have e86' : F 86 = h := e86
  have e : ∀ i, i ≠ 86 → updN F 86 (F 86 - 1) i = F i := fun i h2 => updN_n _ _ _ h2
  refine ⟨⟨hP, hY, (e 0 (by omega)).trans e0, (e 1 (by omega)).trans e1, (e 2 (by omega)).trans e2, (e 3 (by omega)).trans e3, (e 4 (by omega)).trans e4, ruR_congr hr (fun i hi c hc => e _ (by have hi2 : i < n := hi; omega)) (fun _ _ => rfl)⟩, ⟨by rw [updN_s, e86'], fun k hk => ?_⟩, (e 85 (by omega)).trans e85, hq, hY1, htP, huv, ?_, fun i => ?_⟩
  · have hk2 : k < h - 1 := hk
    rw [e _ (by omega)]
    have h2 := hs k (by show k < h; omega)
    dsimp only at h2 ⊢
    refine ⟨?_, h2.2⟩
    rw [h2.1, Nat.div_div_eq_div_mul, Nat.mul_comm, ← Nat.pow_succ, show (h - 1 - 1 - k).succ = h - 1 - k by omega]
  · dsimp only at hS4 ⊢
    rw [show h = (h - 1) + 1 by omega, Nat.pow_succ] at hS4
    omega
  · exact upd_lt hFb (by have := hFb 86; omega) i
theorem rel_state {P Y o t n q q' S h : Nat} {Fc F : Nat → Nat} (hR : gR (P, Y, o, t, n, Fc, q, S, h) F) (hn : n ≤ 16) (hq' : q' < P) : gR (P, Y, o, t, n, Fc, q', S, h) (updN F 85 q') := by
  obtain ⟨⟨hP, hY, e0, e1, e2, e3, e4, hr⟩, hs, e85, hq, hY1, htP, huv, hS4, hFb⟩ := hR
  have hP4 : P ≤ 4 := hP
  have e : ∀ i, i ≠ 85 → updN F 85 q' i = F i := fun i h2 => updN_n _ _ _ h2
  exact ⟨⟨hP, hY, (e 0 (by omega)).trans e0, (e 1 (by omega)).trans e1, (e 2 (by omega)).trans e2, (e 3 (by omega)).trans e3, (e 4 (by omega)).trans e4, ruR_congr hr (fun i hi c hc => e _ (by have hi2 : i < n := hi; omega)) (fun _ _ => rfl)⟩, skR_congr hs (e 86 (by omega)) (fun k hk => e _ (by omega)), updN_s _ _ _, hq', hY1, htP, huv, hS4, fun i => upd_lt hFb (by omega) i⟩
theorem gR_ru {P Y o t n q S h j : Nat} {Fc F : Nat → Nat} (hR : gR (P, Y, o, t, n, Fc, q, S, h) F) (hj : j < n) : F (5 + 5 * j) = Fc j % 4 ∧ F (5 + 5 * j + 1) = Fc j / 4 % 4 ∧ F (5 + 5 * j + 2) = Fc j / 16 % 4 ∧ F (5 + 5 * j + 3) = Fc j / 64 % 4 ∧ F (5 + 5 * j + 4) = Fc j / 256 % 4 ∧ Fc j % 4 < P ∧ Fc j / 4 % 4 < Y ∧ Fc j / 16 % 4 < P ∧ Fc j / 64 % 4 ≤ Y ∧ Fc j / 256 % 4 ≤ Y ∧ Fc j < 1024 := hR.1.2.2.2.2.2.2.2 j hj
theorem gR_86 {P Y o t n q S h : Nat} {Fc F : Nat → Nat} (hR : gR (P, Y, o, t, n, Fc, q, S, h) F) : F 86 = h := hR.2.1.1
theorem rel_play {P Y o t n q S h j : Nat} {Fc F : Nat → Nat} (hR : gR (P, Y, o, t, n, Fc, q, S, h) F) (hn : n ≤ 16) (hh : 1 ≤ h) (hh2 : h ≤ 12) (hj : j < n) (hA : hAft h (Fc j) ≤ 12) : gR (P, Y, o, t, n, Fc, Fc j / 16 % 4, sAft S (Fc j), hAft h (Fc j)) (plF F j) := by
  obtain ⟨r0, r1, r2, r3, r4, l0, l1, l2, l3, l4, l5⟩ := gR_ru hR hj
  have e86 := gR_86 hR
  have p1 := rel_pop hR hn hh
  have p86 : updN F 86 (F 86 - 1) 86 = F 86 - 1 := updN_s _ _ _
  unfold plF sAft hAft
  unfold hAft at hA
  rw [r2, r3, r4]
  by_cases hv : Fc j / 256 % 4 = 0
  · rw [if_pos hv, if_pos hv, if_pos hv]
    rw [if_pos hv] at hA
    by_cases hu : Fc j / 64 % 4 = 0
    · rw [if_pos hu, if_pos hu, if_pos hu]
      exact rel_state p1 hn l2
    · rw [if_neg hu, if_neg hu, if_neg hu]
      have p2 := rel_push (j := Fc j / 64 % 4 - 1) p1 hn (by omega) (by omega)
      rw [p86] at p2
      exact rel_state p2 hn l2
  · rw [if_neg hv, if_neg hv, if_neg hv]
    rw [if_neg hv] at hA
    have p2 := rel_push (j := Fc j / 256 % 4 - 1) p1 hn (by omega) (by omega)
    rw [p86] at p2
    by_cases hu : Fc j / 64 % 4 = 0
    · rw [if_pos hu, if_pos hu, if_pos hu]
      exact rel_state p2 hn l2
    · rw [if_neg hu, if_neg hu, if_neg hu]
      rw [if_neg hu] at hA
      have p3 := rel_push (j := Fc j / 64 % 4 - 1) p2 hn (by omega) (by omega)
      rw [updN_s] at p3
      have hz : h - 1 + 1 + 1 = h - 1 + (0 + 1) + 1 := by omega
      exact rel_state p3 hn l2
end Rel2
