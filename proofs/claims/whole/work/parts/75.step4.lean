section Steps4
variable {l : Launch} {D : va_G} {cI cC cJ cG : ClassId} {x : XSt} {m : MSt}
theorem st_winningStacks (a b : Int32) (hI : Inv x m) : StepL l D cI cC cJ cG yX9_winningStacks wsX9_winningStacks yX10_winningStacks wsX10_winningStacks [.int a, .int b] x m := by
  obtain ⟨T, le, g, d, nw, ct, K, A, C, ro, sl, A2, C2, ro2, sl2, W, M⟩ := x
  obtain ⟨F, Q, ft, B, Bt, a1, a2, a3, a4, a5, fr, Wm, Mm, km, lm, sp, rm⟩ := m
  obtain ⟨hx, hg, hh, ⟨⟨hlm, hft⟩, hT2⟩, hc, hB, hb1, hb3, hfr⟩ := id hI
  obtain ⟨hT, hle, hgo, hdo, hnw, hct, hKk, hA, hC, hsl, hA2, hC2, hsl2⟩ := id hx
  obtain ⟨P, Y, o, t, n, Fc, q, S, hi⟩ := g
  dsimp only at hx hg hh hlm hft hT2 hc hB hb1 hb3 hfr hT hle hgo hdo hnw hct hKk hA hC hsl hA2 hC2 hsl2
  obtain ⟨g1, g2, g3, g4, g5, g6, g7, g8, g9⟩ := id hgo
  dsimp only at g1 g2 g3 g4 g5 g6 g7 g8 g9
  obtain ⟨⟨hP, hY, e0, e1, e2, e3, e4, hru⟩, ⟨e86, hsk⟩, e85, hq, hY1, htP, huv, hS4, hFb⟩ := id hg
  dsimp only at hP hY e0 e1 e2 e3 e4 hru e86 hsk e85 hq hY1 htP huv hS4 hFb
  obtain ⟨k0, hQb, hK9⟩ := id hh
  obtain ⟨N, hN9, hE, hro, hfam, hfix⟩ := sat_pack (C := C) (B := B) hg.1 hA hC hsl hc hB
  have hmru := gmR_ru hg.1
  have hgb := gB_lt hmru (bgM_lt (F := F) (k := 12) hB)
  have hsy : ∀ k, k < F 86 → F (87 + k) < 3 := fun k hk => by
    have h9 := (hsk k (by omega)).2
    omega
  cases hv : inR a P with
  | false => exact ⟨(-1), _, Unit, fun _ => True, fun _ => (F, Q, ft, B, Bt, a1, a2, a3, a4, a5, fr, Wm, Mm, km, lm, sp, rm), 6, 6, by decide, by decide, fun _ _ => hI, fun H hk hr => c_X9_winningStacksE (l := l) (D := D) (cI := cI) (cC := cC) (cJ := cJ) (cG := cG) H hk hr T le (P, Y, o, t, n, Fc, q, S, hi) d nw ct K A C ro sl A2 C2 ro2 sl2 W M hx a b (Or.inl hv), fun h => c_X10_winningStacksE (l := l) (D := D) (cI := cI) (cC := cC) (cJ := cJ) (cG := cG) h F Q ft B Bt a1 a2 a3 a4 a5 fr Wm Mm km lm sp rm a b hFb (Or.inl (by rw [e0]; exact hv))⟩
  | true =>
    cases hw : inR b 61 with
    | false => exact ⟨(-1), _, Unit, fun _ => True, fun _ => (F, Q, ft, B, Bt, a1, a2, a3, a4, a5, fr, Wm, Mm, km, lm, sp, rm), 6, 6, by decide, by decide, fun _ _ => hI, fun H hk hr => c_X9_winningStacksE (l := l) (D := D) (cI := cI) (cC := cC) (cJ := cJ) (cG := cG) H hk hr T le (P, Y, o, t, n, Fc, q, S, hi) d nw ct K A C ro sl A2 C2 ro2 sl2 W M hx a b (Or.inr hw), fun h => c_X10_winningStacksE (l := l) (D := D) (cI := cI) (cC := cC) (cJ := cJ) (cG := cG) h F Q ft B Bt a1 a2 a3 a4 a5 fr Wm Mm km lm sp rm a b hFb (Or.inr hw)⟩
    | true =>
      obtain ⟨j, hj, rfl⟩ := inR_ex (by omega) hv
      obtain ⟨z, hz, rfl⟩ := inR_ex (by decide) hw
      cases hf : fitL Y z with
      | false => exact ⟨(-5), _, Unit, fun _ => True, fun _ => (F, Q, ft, B, Bt, a1, a2, a3, a4, a5, fr, Wm, Mm, km, lm, sp, rm), 6, 6, by decide, by decide, fun _ _ => hI, fun H hk hr => c_X9_winningStacksO (l := l) (D := D) (cI := cI) (cC := cC) (cJ := cJ) (cG := cG) H hk hr T le (P, Y, o, t, n, Fc, q, S, hi) d nw ct K A C ro sl A2 C2 ro2 sl2 W M hx j z hj (by omega) hY1 hf, fun h => c_X10_winningStacksO (l := l) (D := D) (cI := cI) (cC := cC) (cJ := cJ) (cG := cG) h F Q ft B Bt a1 a2 a3 a4 a5 fr Wm Mm km lm sp rm hFb (by rw [e1]; exact g2) j z (by rw [e0]; exact hj) (by omega) (by rw [e1]; exact hY1) (by rw [e1]; exact hf)⟩
      | true =>
        have hz9 := ws_eq (p := j) (W := W) (M := M) (Wm := Wm) (Mm := Mm) hg.1 g4 hY1 hfam hf
        exact ⟨(smL j (ctW t P Y (satR sl o t n P Y Fc A C ro).1 z (inL t W 16) M).1 16), (T, le, (P, Y, o, t, n, Fc, q, S, hi), d, nw, ct, K, (satR sl o t n P Y Fc A C ro).1, (satR sl o t n P Y Fc A C ro).2.1, (satR sl o t n P Y Fc A C ro).2.2, 0, A2, C2, ro2, sl2, (ctW t P Y (satR sl o t n P Y Fc A C ro).1 z (inL t W 16) M).1, (ctW t P Y (satR sl o t n P Y Fc A C ro).1 z (inL t W 16) M).2), Unit, fun _ => True, fun _ => (F, Q, ft, gB F (bgM F B 12) N, gT F (bgM F B 12) Bt (N + 1), a1, a2, a3, a4, a5, fr, (ctM F (gB F (bgM F B 12) N) z (inL (F 3) Wm 16) Mm).1, (ctM F (gB F (bgM F B 12) N) z (inL (F 3) Wm 16) Mm).2, km, lm, sp, N), 6, 6, by decide, by decide, fun _ _ => inv_sat _ _ _ _ _ _ _ _ _ _ hI (hgb N) hA2 hC2, fun H hk hr => c_X9_winningStacks (l := l) (D := D) (cI := cI) (cC := cC) (cJ := cJ) (cG := cG) H hk hr T le (P, Y, o, t, n, Fc, q, S, hi) d nw ct K A C ro sl A2 C2 ro2 sl2 W M hx j z hj (by omega) hY1 hf, fun h => Ct_val (c_X10_winningStacks (l := l) (D := D) (cI := cI) (cC := cC) (cJ := cJ) (cG := cG) h F Q ft B Bt a1 a2 a3 a4 a5 fr Wm Mm km lm sp rm hFb (by rw [e0]; exact g1) (by rw [e1]; exact g2) (by rw [e4]; exact g5) hmru (by rw [e3]; exact g4) (by rw [e2]; exact g3) hB N (by omega) hE j z (by rw [e0]; exact hj) (by omega) (by rw [e1]; exact hY1) (by rw [e1]; exact hf)) (by rw [hz9])⟩
end Steps4
