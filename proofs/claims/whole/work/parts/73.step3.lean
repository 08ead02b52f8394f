section Steps3
theorem inv_sat {T : Nat → Nat} {le : Nat} {d : GT} {P Y o t n q S hi : Nat} {Fc : Nat → Nat} {nw ct : Nat} {K : Nat → GT} {A C : Nat → Nat} {ro sl : Nat} {A2 C2 : Nat → Nat} {ro2 sl2 : Nat} {W M : Nat → Int64} {F Q ft B Bt a1 a2 a3 a4 a5 : Nat → Nat} {fr : Nat → Int32} {Wm Mm : Nat → Int64} {km lm sp rm : Nat} (B' Bt' A2' C2' : Nat → Nat) (ro2' rm' : Nat) (W' M' Wm' Mm' : Nat → Int64)
    (hI : Inv (T, le, (P, Y, o, t, n, Fc, q, S, hi), d, nw, ct, K, A, C, ro, sl, A2, C2, ro2, sl2, W, M) (F, Q, ft, B, Bt, a1, a2, a3, a4, a5, fr, Wm, Mm, km, lm, sp, rm)) (hB' : ∀ i, B' i < 65536) (hA2' : ∀ i, A2' i < 65536) (hC2' : ∀ i, C2' i < 65536) : Inv (T, le, (P, Y, o, t, n, Fc, q, S, hi), d, nw, ct, K, (satR sl o t n P Y Fc A C ro).1, (satR sl o t n P Y Fc A C ro).2.1, (satR sl o t n P Y Fc A C ro).2.2, 0, A2', C2', ro2', sl2, W', M') (F, Q, ft, B', Bt', a1, a2, a3, a4, a5, fr, Wm', Mm', km, lm, sp, rm') := by
  obtain ⟨hx, hg, hh, ht, hc, hB, hb1, hb3, hfr⟩ := id hI
  obtain ⟨hT, hle, hgo, hdo, hnw, hct, hKk, hA, hC, hsl, hA2, hC2, hsl2⟩ := id hx
  dsimp only at hx hg hh ht hc hB hb1 hb3 hfr hT hle hgo hdo hnw hct hKk hA hC hsl hA2 hC2 hsl2
  have hlt := satR_lt (sl := sl) (o := o) (t := t) (n := n) (P := P) (Y := Y) (F := Fc) (ro := ro) hA hC
  exact ⟨⟨hT, hle, hgo, hdo, hnw, hct, hKk, hlt.1, hlt.2, Nat.le_of_ble_eq_true rfl, hA2', hC2', hsl2⟩, hg, hh, ht, fun _ => satC hg.1 hA hC hsl hc, hB', hb1, hb3, hfr⟩
theorem sat_pack {P Y o t n sl ro : Nat} {Fc F A C B : Nat → Nat} (hg : gmR P Y o t n Fc F) (hA : ∀ i, A i < 65536) (hC : ∀ i, C i < 65536) (hsl : sl < 2) (hc : cR P Y o t n Fc sl ro A) (hB : ∀ i, B i < 65536) : ∃ N, N ≤ 192 ∧ endsAt F (bgM F B 12) N ∧ (satR sl o t n P Y Fc A C ro).2.2 = N ∧ famR P Y (satR sl o t n P Y Fc A C ro).1 (gB F (bgM F B 12) N) ∧ chg o t n P (satR sl o t n P Y Fc A C ro).1 Fc Y 0 = false := by
  obtain ⟨N, h1, h2, h3, h4⟩ := satC (C := C) hg hA hC hsl hc
  have hE := (endC_at hg hB).mp h2
  have hf := famR_of (iA_fam hg hB N) h4
  have hlt := satR_lt (sl := sl) (o := o) (t := t) (n := n) (P := P) (Y := Y) (F := Fc) (ro := ro) hA hC
  refine ⟨N, h1, hE, h3, hf, ?_⟩
  obtain ⟨hP, hY, e0, e1, e2, e3, e4, hr⟩ := id hg
  rw [ch_eq hP hY hr e0 e1 e3 e2 e4 hlt.1 (gB_lt (gmR_ru hg) (bgM_lt hB) N) (gmR_ru hg) hf]
  exact hE.2
theorem wr_eq {P Y o t n q S h N : Nat} {Fc F B : Nat → Nat} (hR : gR (P, Y, o, t, n, Fc, q, S, h) F) (ht : t < 16) (hB : ∀ i, B i < 65536) : ∀ (f k r2 : Nat) (A C : Nat → Nat), k + f = N + 1 → famR P Y A (gB F (bgM F B 12) k) → (∀ i, A i < 65536) → (∀ i, C i < 65536) →
    ((∃ k0, k ≤ k0 ∧ k0 ≤ N ∧ bt (acM F (gB F (bgM F B 12) k0) (F 86)) (F 85) = 1 ∧ (∀ j, k ≤ j → j < k0 → bt (acM F (gB F (bgM F B 12) j) (F 86)) (F 85) ≠ 1) ∧ (wrL o t n P Y Fc q S h f A C r2 k).1 = some k0) ∨ ((∀ j, k ≤ j → j ≤ N → bt (acM F (gB F (bgM F B 12) j) (F 86)) (F 85) ≠ 1) ∧ (wrL o t n P Y Fc q S h f A C r2 k).1 = none)) ∧ (∀ i, (wrL o t n P Y Fc q S h f A C r2 k).2.1 i < 65536) ∧ ∀ i, (wrL o t n P Y Fc q S h f A C r2 k).2.2.1 i < 65536
  | 0, k, r2, A, C, hk, hf, hA, hC => ⟨Or.inr ⟨fun j h1 h2 => by omega, rfl⟩, hA, hC⟩
  | f + 1, k, r2, A, C, hk, hf, hA, hC => by
    have hac : acD t P A S h h = acM F (gB F (bgM F B 12) k) (F 86) := by
      rw [gR_86 hR]
      exact acD_eq hR.1 ht hf hR.2.1 h (Nat.le_refl _)
    have e85 : F 85 = q := hR.2.2.1
    by_cases hb : bt (acD t P A S h h) q = 1
    · rw [wrL_y hb]
      exact ⟨Or.inl ⟨k, Nat.le_refl _, by omega, by rw [← hac, e85]; exact hb, fun j h1 h2 => by omega, rfl⟩, hA, hC⟩
    · rw [wrL_n hb]
      have hlk := gB_lt (gmR_ru hR.1) (bgM_lt (F := F) (k := 12) hB) k
      have ih := wr_eq (N := N) hR ht hB f (k + 1) (r2 + b2n (chg o t n P A Fc Y 0)) (adA o t n P Y A C Fc) (cmg o t n P A C Fc Y 0) (by omega) (fam_step hR.1 hA hlk hf) (adA_lt hA hC) (cmg_lt hA hC)
      have hnk : bt (acM F (gB F (bgM F B 12) k) (F 86)) (F 85) ≠ 1 := by rw [← hac, e85]; exact hb
      refine ⟨?_, ih.2⟩
      rcases ih.1 with ⟨k0, q1, q2, q3, q4, q5⟩ | ⟨q1, q2⟩
      · exact Or.inl ⟨k0, by omega, q2, q3, fun j h1 h2 => by
          rcases Nat.eq_or_lt_of_le h1 with h3 | h3
          · rw [← h3]; exact hnk
          · exact q4 j h3 h2, q5⟩
      · exact Or.inr ⟨fun j h1 h2 => by
          rcases Nat.eq_or_lt_of_le h1 with h3 | h3
          · rw [← h3]; exact hnk
          · exact q1 j h3 h2, q2⟩
variable {l : Launch} {D : va_G} {cI cC cJ cG : ClassId} {x : XSt} {m : MSt}
theorem st_winner (hI : Inv x m) : StepP l D cI cC cJ cG yX9_winner wsX9_winner yX10_winner wsX10_winner [] x m := by
  obtain ⟨T, le, g, d, nw, ct, K, A, C, ro, sl, A2, C2, ro2, sl2, W, M⟩ := x
  obtain ⟨F, Q, ft, B, Bt, a1, a2, a3, a4, a5, fr, Wm, Mm, km, lm, sp, rm⟩ := m
  obtain ⟨hx, hg, hh, ⟨⟨hlm, hft⟩, hT2⟩, hc, hB, hb1, hb3, hfr⟩ := id hI
  obtain ⟨hT, hle, hgo, hdo, hnw, hct, hKk, hA, hC, hsl, hA2, hC2, hsl2⟩ := id hx
  obtain ⟨P, Y, o, t, n, Fc, q, S, hi⟩ := g
  dsimp only at hx hg hh hlm hft hT2 hc hB hb1 hb3 hfr hT hle hgo hdo hnw hct hKk hA hC hsl hA2 hC2 hsl2
  obtain ⟨g1, g2, g3, g4, g5, g6, g7, g8, g9⟩ := id hgo
  dsimp only at g1 g2 g3 g4 g5 g6 g7 g8 g9
  obtain ⟨⟨hP, hY, e0, e1, e2, e3, e4, hru⟩, ⟨e86, hsk⟩, e85, hq, hY1, htP, huv, hS4, hFb⟩ := id hg
  dsimp only at hP hY e0 e1 e2 e3 e4 hru e86 hsk e85 hq hY1 htP huv hS4 hFb
  obtain ⟨k0, hQb, hK9⟩ := id hh
  obtain ⟨N, hN9, hE, hro, hfam, hfix⟩ := sat_pack (C := C) (B := B) hg.1 hA hC hsl hc hB
  have hmru := gmR_ru hg.1
  have hgb := gB_lt hmru (bgM_lt (F := F) (k := 12) hB)
  have hsy : ∀ k, k < F 86 → F (87 + k) < 3 := fun k hk => by
    have h9 := (hsk k (by omega)).2
    omega
  have hac : acD t P (satR sl o t n P Y Fc A C ro).1 S hi hi = acM F (gB F (bgM F B 12) N) (F 86) := by
    rw [e86]
    exact acD_eq hg.1 g4 hfam hg.2.1 hi (Nat.le_refl _)
  exact ⟨(nI (1 - bt (acD t P (satR sl o t n P Y Fc A C ro).1 S hi hi) q)), (T, le, (P, Y, o, t, n, Fc, q, S, hi), d, nw, ct, K, (satR sl o t n P Y Fc A C ro).1, (satR sl o t n P Y Fc A C ro).2.1, (satR sl o t n P Y Fc A C ro).2.2, 0, A2, C2, ro2, sl2, W, M), Unit, fun _ => True, fun _ => (F, Q, ft, gB F (bgM F B 12) N, gT F (bgM F B 12) Bt (N + 1), a1, a2, a3, a4, a5, fr, Wm, Mm, km, lm, sp, N), 6, 6, by decide, by decide, fun _ _ => inv_sat _ _ _ _ _ _ _ _ _ _ hI (hgb N) hA2 hC2, fun H hk hr => c_X9_winner (l := l) (D := D) (cI := cI) (cC := cC) (cJ := cJ) (cG := cG) H hk hr T le (P, Y, o, t, n, Fc, q, S, hi) d nw ct K A C ro sl A2 C2 ro2 sl2 W M hx , fun h => Ct_val (c_X10_winner (l := l) (D := D) (cI := cI) (cC := cC) (cJ := cJ) (cG := cG) h F Q ft B Bt a1 a2 a3 a4 a5 fr Wm Mm km lm sp rm hFb (by rw [e0]; exact g1) (by rw [e1]; exact g2) (by rw [e4]; exact g5) hmru (by rw [e3]; exact g4) (by rw [e2]; exact g3) hB N (by omega) hE (by rw [e85]; exact g7) (by rw [e86]; exact g9) hsy) (by rw [hac, e85])⟩

theorem st_rounds (hI : Inv x m) : StepP l D cI cC cJ cG yX9_rounds wsX9_rounds yX10_rounds wsX10_rounds [] x m := by
  obtain ⟨T, le, g, d, nw, ct, K, A, C, ro, sl, A2, C2, ro2, sl2, W, M⟩ := x
  obtain ⟨F, Q, ft, B, Bt, a1, a2, a3, a4, a5, fr, Wm, Mm, km, lm, sp, rm⟩ := m
  obtain ⟨hx, hg, hh, ⟨⟨hlm, hft⟩, hT2⟩, hc, hB, hb1, hb3, hfr⟩ := id hI
  obtain ⟨hT, hle, hgo, hdo, hnw, hct, hKk, hA, hC, hsl, hA2, hC2, hsl2⟩ := id hx
  obtain ⟨P, Y, o, t, n, Fc, q, S, hi⟩ := g
  dsimp only at hx hg hh hlm hft hT2 hc hB hb1 hb3 hfr hT hle hgo hdo hnw hct hKk hA hC hsl hA2 hC2 hsl2
  obtain ⟨g1, g2, g3, g4, g5, g6, g7, g8, g9⟩ := id hgo
  dsimp only at g1 g2 g3 g4 g5 g6 g7 g8 g9
  obtain ⟨⟨hP, hY, e0, e1, e2, e3, e4, hru⟩, ⟨e86, hsk⟩, e85, hq, hY1, htP, huv, hS4, hFb⟩ := id hg
  dsimp only at hP hY e0 e1 e2 e3 e4 hru e86 hsk e85 hq hY1 htP huv hS4 hFb
  obtain ⟨k0, hQb, hK9⟩ := id hh
  obtain ⟨N, hN9, hE, hro, hfam, hfix⟩ := sat_pack (C := C) (B := B) hg.1 hA hC hsl hc hB
  have hmru := gmR_ru hg.1
  have hgb := gB_lt hmru (bgM_lt (F := F) (k := 12) hB)
  have hsy : ∀ k, k < F 86 → F (87 + k) < 3 := fun k hk => by
    have h9 := (hsk k (by omega)).2
    omega
  exact ⟨(nI ((satR sl o t n P Y Fc A C ro).2.2)), (T, le, (P, Y, o, t, n, Fc, q, S, hi), d, nw, ct, K, (satR sl o t n P Y Fc A C ro).1, (satR sl o t n P Y Fc A C ro).2.1, (satR sl o t n P Y Fc A C ro).2.2, 0, A2, C2, ro2, sl2, W, M), Unit, fun _ => True, fun _ => (F, Q, ft, gB F (bgM F B 12) N, gT F (bgM F B 12) Bt (N + 1), a1, a2, a3, a4, a5, fr, Wm, Mm, km, lm, sp, N), 6, 6, by decide, by decide, fun _ _ => inv_sat _ _ _ _ _ _ _ _ _ _ hI (hgb N) hA2 hC2, fun H hk hr => c_X9_rounds (l := l) (D := D) (cI := cI) (cC := cC) (cJ := cJ) (cG := cG) H hk hr T le (P, Y, o, t, n, Fc, q, S, hi) d nw ct K A C ro sl A2 C2 ro2 sl2 W M hx , fun h => Ct_val (c_X10_rounds (l := l) (D := D) (cI := cI) (cC := cC) (cJ := cJ) (cG := cG) h F Q ft B Bt a1 a2 a3 a4 a5 fr Wm Mm km lm sp rm hFb (by rw [e0]; exact g1) (by rw [e1]; exact g2) (by rw [e4]; exact g5) hmru (by rw [e3]; exact g4) (by rw [e2]; exact g3) hB N (by omega) hE) (by rw [hro])⟩

theorem st_forcingSetCount (a b : Int32) (hI : Inv x m) : StepP l D cI cC cJ cG yX9_forcingSetCount wsX9_forcingSetCount yX10_forcingSetCount wsX10_forcingSetCount [.int a, .int b] x m := by
  obtain ⟨T, le, g, d, nw, ct, K, A, C, ro, sl, A2, C2, ro2, sl2, W, M⟩ := x
  obtain ⟨F, Q, ft, B, Bt, a1, a2, a3, a4, a5, fr, Wm, Mm, km, lm, sp, rm⟩ := m
  obtain ⟨hx, hg, hh, ⟨⟨hlm, hft⟩, hT2⟩, hc, hB, hb1, hb3, hfr⟩ := id hI
  obtain ⟨hT, hle, hgo, hdo, hnw, hct, hKk, hA, hC, hsl, hA2, hC2, hsl2⟩ := id hx
  obtain ⟨P, Y, o, t, n, Fc, q, S, hi⟩ := g
  dsimp only at hx hg hh hlm hft hT2 hc hB hb1 hb3 hfr hT hle hgo hdo hnw hct hKk hA hC hsl hA2 hC2 hsl2
  obtain ⟨g1, g2, g3, g4, g5, g6, g7, g8, g9⟩ := id hgo
  dsimp only at g1 g2 g3 g4 g5 g6 g7 g8 g9
  obtain ⟨⟨hP, hY, e0, e1, e2, e3, e4, hru⟩, ⟨e86, hsk⟩, e85, hq, hY1, htP, huv, hS4, hFb⟩ := id hg
  dsimp only at hP hY e0 e1 e2 e3 e4 hru e86 hsk e85 hq hY1 htP huv hS4 hFb
  obtain ⟨k0, hQb, hK9⟩ := id hh
  obtain ⟨N, hN9, hE, hro, hfam, hfix⟩ := sat_pack (C := C) (B := B) hg.1 hA hC hsl hc hB
  have hmru := gmR_ru hg.1
  have hgb := gB_lt hmru (bgM_lt (F := F) (k := 12) hB)
  have hsy : ∀ k, k < F 86 → F (87 + k) < 3 := fun k hk => by
    have h9 := (hsk k (by omega)).2
    omega
  cases hv : inR a P with
  | false => exact ⟨(-1), _, Unit, fun _ => True, fun _ => (F, Q, ft, B, Bt, a1, a2, a3, a4, a5, fr, Wm, Mm, km, lm, sp, rm), 6, 6, by decide, by decide, fun _ _ => hI, fun H hk hr => c_X9_forcingSetCountE (l := l) (D := D) (cI := cI) (cC := cC) (cJ := cJ) (cG := cG) H hk hr T le (P, Y, o, t, n, Fc, q, S, hi) d nw ct K A C ro sl A2 C2 ro2 sl2 W M hx a b (Or.inl hv), fun h => c_X10_forcingSetCountE (l := l) (D := D) (cI := cI) (cC := cC) (cJ := cJ) (cG := cG) h F Q ft B Bt a1 a2 a3 a4 a5 fr Wm Mm km lm sp rm a b hFb (Or.inl (by rw [e0]; exact hv))⟩
  | true =>
    cases hw : inR b Y with
    | false => exact ⟨(-1), _, Unit, fun _ => True, fun _ => (F, Q, ft, B, Bt, a1, a2, a3, a4, a5, fr, Wm, Mm, km, lm, sp, rm), 6, 6, by decide, by decide, fun _ _ => hI, fun H hk hr => c_X9_forcingSetCountE (l := l) (D := D) (cI := cI) (cC := cC) (cJ := cJ) (cG := cG) H hk hr T le (P, Y, o, t, n, Fc, q, S, hi) d nw ct K A C ro sl A2 C2 ro2 sl2 W M hx a b (Or.inr hw), fun h => c_X10_forcingSetCountE (l := l) (D := D) (cI := cI) (cC := cC) (cJ := cJ) (cG := cG) h F Q ft B Bt a1 a2 a3 a4 a5 fr Wm Mm km lm sp rm a b hFb (Or.inr (by rw [e1]; exact hw))⟩
    | true =>
      obtain ⟨j, hj, rfl⟩ := inR_ex (by omega) hv
      obtain ⟨y, hy, rfl⟩ := inR_ex (by omega) hw
      have hz9 := mnC_eq (hfam j hj y hy).1 (hfam j hj y hy).2.1 16 (Nat.le_refl _)
      exact ⟨(nI (mnC ((satR sl o t n P Y Fc A C ro).1 (j + 4 * y)) 16)), (T, le, (P, Y, o, t, n, Fc, q, S, hi), d, nw, ct, K, (satR sl o t n P Y Fc A C ro).1, (satR sl o t n P Y Fc A C ro).2.1, (satR sl o t n P Y Fc A C ro).2.2, 0, A2, C2, ro2, sl2, W, M), Unit, fun _ => True, fun _ => (F, Q, ft, gB F (bgM F B 12) N, gT F (bgM F B 12) Bt (N + 1), a1, a2, a3, a4, a5, fr, Wm, Mm, km, lm, sp, N), 6, 6, by decide, by decide, fun _ _ => inv_sat _ _ _ _ _ _ _ _ _ _ hI (hgb N) hA2 hC2, fun H hk hr => c_X9_forcingSetCount (l := l) (D := D) (cI := cI) (cC := cC) (cJ := cJ) (cG := cG) H hk hr T le (P, Y, o, t, n, Fc, q, S, hi) d nw ct K A C ro sl A2 C2 ro2 sl2 W M hx j y hj hy, fun h => Ct_val (c_X10_forcingSetCount (l := l) (D := D) (cI := cI) (cC := cC) (cJ := cJ) (cG := cG) h F Q ft B Bt a1 a2 a3 a4 a5 fr Wm Mm km lm sp rm hFb (by rw [e0]; exact g1) (by rw [e1]; exact g2) (by rw [e4]; exact g5) hmru (by rw [e3]; exact g4) (by rw [e2]; exact g3) hB N (by omega) hE j y (by rw [e0]; exact hj) (by rw [e1]; exact hy)) (by rw [hz9])⟩

theorem st_forcingSet (a b z : Int32) (hI : Inv x m) : StepP l D cI cC cJ cG yX9_forcingSet wsX9_forcingSet yX10_forcingSet wsX10_forcingSet [.int a, .int b, .int z] x m := by
  obtain ⟨T, le, g, d, nw, ct, K, A, C, ro, sl, A2, C2, ro2, sl2, W, M⟩ := x
  obtain ⟨F, Q, ft, B, Bt, a1, a2, a3, a4, a5, fr, Wm, Mm, km, lm, sp, rm⟩ := m
  obtain ⟨hx, hg, hh, ⟨⟨hlm, hft⟩, hT2⟩, hc, hB, hb1, hb3, hfr⟩ := id hI
  obtain ⟨hT, hle, hgo, hdo, hnw, hct, hKk, hA, hC, hsl, hA2, hC2, hsl2⟩ := id hx
  obtain ⟨P, Y, o, t, n, Fc, q, S, hi⟩ := g
  dsimp only at hx hg hh hlm hft hT2 hc hB hb1 hb3 hfr hT hle hgo hdo hnw hct hKk hA hC hsl hA2 hC2 hsl2
  obtain ⟨g1, g2, g3, g4, g5, g6, g7, g8, g9⟩ := id hgo
  dsimp only at g1 g2 g3 g4 g5 g6 g7 g8 g9
  obtain ⟨⟨hP, hY, e0, e1, e2, e3, e4, hru⟩, ⟨e86, hsk⟩, e85, hq, hY1, htP, huv, hS4, hFb⟩ := id hg
  dsimp only at hP hY e0 e1 e2 e3 e4 hru e86 hsk e85 hq hY1 htP huv hS4 hFb
  obtain ⟨k0, hQb, hK9⟩ := id hh
  obtain ⟨N, hN9, hE, hro, hfam, hfix⟩ := sat_pack (C := C) (B := B) hg.1 hA hC hsl hc hB
  have hmru := gmR_ru hg.1
  have hgb := gB_lt hmru (bgM_lt (F := F) (k := 12) hB)
  have hsy : ∀ k, k < F 86 → F (87 + k) < 3 := fun k hk => by
    have h9 := (hsk k (by omega)).2
    omega
  cases hv : inR a P with
  | false => exact ⟨(-1), _, Unit, fun _ => True, fun _ => (F, Q, ft, B, Bt, a1, a2, a3, a4, a5, fr, Wm, Mm, km, lm, sp, rm), 6, 6, by decide, by decide, fun _ _ => hI, fun H hk hr => c_X9_forcingSetE (l := l) (D := D) (cI := cI) (cC := cC) (cJ := cJ) (cG := cG) H hk hr T le (P, Y, o, t, n, Fc, q, S, hi) d nw ct K A C ro sl A2 C2 ro2 sl2 W M hx a b z (Or.inl hv), fun h => c_X10_forcingSetE (l := l) (D := D) (cI := cI) (cC := cC) (cJ := cJ) (cG := cG) h F Q ft B Bt a1 a2 a3 a4 a5 fr Wm Mm km lm sp rm a b z hFb (Or.inl (by rw [e0]; exact hv))⟩
  | true =>
    cases hw : inR b Y with
    | false => exact ⟨(-1), _, Unit, fun _ => True, fun _ => (F, Q, ft, B, Bt, a1, a2, a3, a4, a5, fr, Wm, Mm, km, lm, sp, rm), 6, 6, by decide, by decide, fun _ _ => hI, fun H hk hr => c_X9_forcingSetE (l := l) (D := D) (cI := cI) (cC := cC) (cJ := cJ) (cG := cG) H hk hr T le (P, Y, o, t, n, Fc, q, S, hi) d nw ct K A C ro sl A2 C2 ro2 sl2 W M hx a b z (Or.inr (Or.inl hw)), fun h => c_X10_forcingSetE (l := l) (D := D) (cI := cI) (cC := cC) (cJ := cJ) (cG := cG) h F Q ft B Bt a1 a2 a3 a4 a5 fr Wm Mm km lm sp rm a b z hFb (Or.inr (Or.inl (by rw [e1]; exact hw)))⟩
    | true =>
      by_cases hz : z < 0
      · exact ⟨(-1), _, Unit, fun _ => True, fun _ => (F, Q, ft, B, Bt, a1, a2, a3, a4, a5, fr, Wm, Mm, km, lm, sp, rm), 6, 6, by decide, by decide, fun _ _ => hI, fun H hk hr => c_X9_forcingSetE (l := l) (D := D) (cI := cI) (cC := cC) (cJ := cJ) (cG := cG) H hk hr T le (P, Y, o, t, n, Fc, q, S, hi) d nw ct K A C ro sl A2 C2 ro2 sl2 W M hx a b z (Or.inr (Or.inr hz)), fun h => c_X10_forcingSetE (l := l) (D := D) (cI := cI) (cC := cC) (cJ := cJ) (cG := cG) h F Q ft B Bt a1 a2 a3 a4 a5 fr Wm Mm km lm sp rm a b z hFb (Or.inr (Or.inr hz))⟩
      · obtain ⟨j, hj, rfl⟩ := inR_ex (by omega) hv
        obtain ⟨y, hy, rfl⟩ := inR_ex (by omega) hw
        obtain ⟨k, hk9, rfl⟩ := nI_of hz
        have hz9 := mfL_eq (j := k) (hfam j hj y hy).1 (hfam j hj y hy).2.1 16 0 rfl (Nat.zero_le _)
        exact ⟨(mfL ((satR sl o t n P Y Fc A C ro).1 (j + 4 * y)) k 16 0), (T, le, (P, Y, o, t, n, Fc, q, S, hi), d, nw, ct, K, (satR sl o t n P Y Fc A C ro).1, (satR sl o t n P Y Fc A C ro).2.1, (satR sl o t n P Y Fc A C ro).2.2, 0, A2, C2, ro2, sl2, W, M), Unit, fun _ => True, fun _ => (F, Q, ft, gB F (bgM F B 12) N, gT F (bgM F B 12) Bt (N + 1), a1, a2, a3, a4, a5, fr, Wm, Mm, km, lm, sp, N), 6, 6, by decide, by decide, fun _ _ => inv_sat _ _ _ _ _ _ _ _ _ _ hI (hgb N) hA2 hC2, fun H hk hr => c_X9_forcingSet (l := l) (D := D) (cI := cI) (cC := cC) (cJ := cJ) (cG := cG) H hk hr T le (P, Y, o, t, n, Fc, q, S, hi) d nw ct K A C ro sl A2 C2 ro2 sl2 W M hx j y k hj hy hk9, fun h => Ct_val (c_X10_forcingSet (l := l) (D := D) (cI := cI) (cC := cC) (cJ := cJ) (cG := cG) h F Q ft B Bt a1 a2 a3 a4 a5 fr Wm Mm km lm sp rm hFb (by rw [e0]; exact g1) (by rw [e1]; exact g2) (by rw [e4]; exact g5) hmru (by rw [e3]; exact g4) (by rw [e2]; exact g3) hB N (by omega) hE j y k (by rw [e0]; exact hj) (by rw [e1]; exact hy) hk9) (by rw [hz9]; rfl)⟩

theorem st_winningRound (hI : Inv x m) : StepP l D cI cC cJ cG yX9_winningRound wsX9_winningRound yX10_winningRound wsX10_winningRound [] x m := by
  obtain ⟨T, le, g, d, nw, ct, K, A, C, ro, sl, A2, C2, ro2, sl2, W, M⟩ := x
  obtain ⟨F, Q, ft, B, Bt, a1, a2, a3, a4, a5, fr, Wm, Mm, km, lm, sp, rm⟩ := m
  obtain ⟨hx, hg, hh, ⟨⟨hlm, hft⟩, hT2⟩, hc, hB, hb1, hb3, hfr⟩ := id hI
  obtain ⟨hT, hle, hgo, hdo, hnw, hct, hKk, hA, hC, hsl, hA2, hC2, hsl2⟩ := id hx
  obtain ⟨P, Y, o, t, n, Fc, q, S, hi⟩ := g
  dsimp only at hx hg hh hlm hft hT2 hc hB hb1 hb3 hfr hT hle hgo hdo hnw hct hKk hA hC hsl hA2 hC2 hsl2
  obtain ⟨g1, g2, g3, g4, g5, g6, g7, g8, g9⟩ := id hgo
  dsimp only at g1 g2 g3 g4 g5 g6 g7 g8 g9
  obtain ⟨⟨hP, hY, e0, e1, e2, e3, e4, hru⟩, ⟨e86, hsk⟩, e85, hq, hY1, htP, huv, hS4, hFb⟩ := id hg
  dsimp only at hP hY e0 e1 e2 e3 e4 hru e86 hsk e85 hq hY1 htP huv hS4 hFb
  obtain ⟨k0, hQb, hK9⟩ := id hh
  obtain ⟨N, hN9, hE, hro, hfam, hfix⟩ := sat_pack (C := C) (B := B) hg.1 hA hC hsl hc hB
  have hmru := gmR_ru hg.1
  have hgb := gB_lt hmru (bgM_lt (F := F) (k := 12) hB)
  have hsy : ∀ k, k < F 86 → F (87 + k) < 3 := fun k hk => by
    have h9 := (hsk k (by omega)).2
    omega
  obtain ⟨hw, hwA, hwC⟩ := wr_eq (N := N) hg g4 hB ((satR sl o t n P Y Fc A C ro).2.2 + 1) 0 0 (bgA t P A2 Y 0) (bgZ C2 16) (by rw [hro]; omega) (fam_begin g1 g2 e0 e3) (bgA_lt hA2) (bgZ_lt hC2)
  rcases hw with ⟨k9, q1, q2, q3, q4, q5⟩ | ⟨q1, q2⟩
  · exact ⟨(nI k9), (T, le, (P, Y, o, t, n, Fc, q, S, hi), d, nw, ct, K, (satR sl o t n P Y Fc A C ro).1, (satR sl o t n P Y Fc A C ro).2.1, (satR sl o t n P Y Fc A C ro).2.2, 0, (wrL o t n P Y Fc q S hi ((satR sl o t n P Y Fc A C ro).2.2 + 1) (bgA t P A2 Y 0) (bgZ C2 16) 0 0).2.1, (wrL o t n P Y Fc q S hi ((satR sl o t n P Y Fc A C ro).2.2 + 1) (bgA t P A2 Y 0) (bgZ C2 16) 0 0).2.2.1, (wrL o t n P Y Fc q S hi ((satR sl o t n P Y Fc A C ro).2.2 + 1) (bgA t P A2 Y 0) (bgZ C2 16) 0 0).2.2.2, sl2, W, M), Unit, fun _ => True, fun _ => (F, Q, ft, gB F (bgM F B 12) k9, gT F (bgM F B 12) Bt k9, a1, a2, a3, a4, a5, fr, Wm, Mm, km, lm, sp, k9), 6, 6, by decide, by decide, fun _ _ => inv_sat _ _ _ _ _ _ _ _ _ _ hI (hgb k9) hwA hwC, fun H hk hr => Ct_val (c_X9_winningRound (l := l) (D := D) (cI := cI) (cC := cC) (cJ := cJ) (cG := cG) H hk hr T le (P, Y, o, t, n, Fc, q, S, hi) d nw ct K A C ro sl A2 C2 ro2 sl2 W M hx (by dsimp only; rw [hro]; omega)) (by dsimp only; rw [q5]; rfl), fun h => c_X10_winningRound (l := l) (D := D) (cI := cI) (cC := cC) (cJ := cJ) (cG := cG) h F Q ft B Bt a1 a2 a3 a4 a5 fr Wm Mm km lm sp rm hFb (by rw [e0]; exact g1) (by rw [e1]; exact g2) (by rw [e4]; exact g5) hmru (by rw [e3]; exact g4) (by rw [e2]; exact g3) hB N (by omega) hE (by rw [e85]; exact g7) (by rw [e86]; exact g9) hsy k9 q2 q3 (fun k hk => q4 k (Nat.zero_le _) hk)⟩
  · exact ⟨(-4), (T, le, (P, Y, o, t, n, Fc, q, S, hi), d, nw, ct, K, (satR sl o t n P Y Fc A C ro).1, (satR sl o t n P Y Fc A C ro).2.1, (satR sl o t n P Y Fc A C ro).2.2, 0, (wrL o t n P Y Fc q S hi ((satR sl o t n P Y Fc A C ro).2.2 + 1) (bgA t P A2 Y 0) (bgZ C2 16) 0 0).2.1, (wrL o t n P Y Fc q S hi ((satR sl o t n P Y Fc A C ro).2.2 + 1) (bgA t P A2 Y 0) (bgZ C2 16) 0 0).2.2.1, (wrL o t n P Y Fc q S hi ((satR sl o t n P Y Fc A C ro).2.2 + 1) (bgA t P A2 Y 0) (bgZ C2 16) 0 0).2.2.2, sl2, W, M), Unit, fun _ => True, fun _ => (F, Q, ft, gB F (bgM F B 12) N, gT F (bgM F B 12) Bt (N + 1), a1, a2, a3, a4, a5, fr, Wm, Mm, km, lm, sp, N), 6, 6, by decide, by decide, fun _ _ => inv_sat _ _ _ _ _ _ _ _ _ _ hI (hgb N) hwA hwC, fun H hk hr => Ct_val (c_X9_winningRound (l := l) (D := D) (cI := cI) (cC := cC) (cJ := cJ) (cG := cG) H hk hr T le (P, Y, o, t, n, Fc, q, S, hi) d nw ct K A C ro sl A2 C2 ro2 sl2 W M hx (by dsimp only; rw [hro]; omega)) (by dsimp only; rw [q2]; rfl), fun h => c_X10_winningRoundN (l := l) (D := D) (cI := cI) (cC := cC) (cJ := cJ) (cG := cG) h F Q ft B Bt a1 a2 a3 a4 a5 fr Wm Mm km lm sp rm hFb (by rw [e0]; exact g1) (by rw [e1]; exact g2) (by rw [e4]; exact g5) hmru (by rw [e3]; exact g4) (by rw [e2]; exact g3) hB N (by omega) hE (by rw [e85]; exact g7) (by rw [e86]; exact g9) hsy (fun k hk => q1 k (Nat.zero_le _) hk)⟩
end Steps3
