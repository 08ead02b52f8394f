section Steps5
theorem erI_oI (o : Option Nat) : erI o = oI o := by
  cases o <;> rfl
variable {l : Launch} {D : va_G} {cI cC cJ cG : ClassId} {x : XSt} {m : MSt}
theorem st_firstError (hI : Inv x m) : StepP l D cI cC cJ cG yX9_firstError wsX9_firstError yX10_firstError wsX10_firstError [] x m := by
  obtain ⟨T, le, g, d, nw, ct, K, A, C, ro, sl, A2, C2, ro2, sl2, W, M⟩ := x
  obtain ⟨F, Q, ft, B, Bt, a1, a2, a3, a4, a5, fr, Wm, Mm, km, lm, sp, rm⟩ := m
  obtain ⟨hx, hg, hh, ⟨⟨hlm, hft⟩, hT2⟩, hc, hB, hb1, hb3, hfr⟩ := id hI
  obtain ⟨hT, hle, hgo, hdo, hnw, hct, hKk, hA, hC, hsl, hA2, hC2, hsl2⟩ := id hx
  obtain ⟨P, Y, o, t, n, Fc, q, S, hi⟩ := g
  dsimp only at hx hg hh hlm hft hT2 hc hB hb1 hb3 hfr hT hle hgo hdo hnw hct hKk hA hC hsl hA2 hC2 hsl2
  obtain ⟨g1, g2, g3, g4, g5, g6, g7, g8, g9⟩ := id hgo
  dsimp only at g1 g2 g3 g4 g5 g6 g7 g8 g9
  obtain ⟨⟨hP, hY, e0, e1, e2, e3, e4, hru⟩, ⟨e86, hsk⟩, e85, hq, hY1, htP, huv, hS4, hFb⟩ := id hg
  dsimp only at hP hY e0 e1 e2 e3 e4 hru e86 hsk e85 hq hY1 htP huv hS4 hFb
  obtain ⟨k0, hQb, hK9⟩ := id hh
  subst hlm
  obtain ⟨hre, hrp⟩ := rd_eq hT2 hdo.2.2.2.2.2.1
  have hdk : dOk (rd T lm d.2.2.2.2.2.1).2 := rd_ok hdo.2.2.2.2.2.1
  have hrk := ra_ok (ft := ft) (le := lm) (lm + 1) E0 0 E0_ok
  exact ⟨(oI (rd T lm d.2.2.2.2.2.1).1), (T, lm, (P, Y, o, t, n, Fc, q, S, hi), dG (rd T lm d.2.2.2.2.2.1).2, nw, ct, K, A, C, ro, sl, A2, C2, ro2, sl2, W, M), RT, fun u => (∀ i, 99 ≤ i → u.2 i = nI 0), fun u => (F, Q, ft, B, Bt, a1, a2, a3, a4, a5, u.2, Wm, Mm, km, lm, u.1, rm), 6, 5, by decide, by decide, fun u hu => ⟨⟨hT, hle, hgo, dG_ok hdk, hnw, hct, hKk, hA, hC, hsl, hA2, hC2, hsl2⟩, hg, hh, ⟨⟨rfl, hft⟩, hT2⟩, hc, hB, hb1, hb3, hu⟩, fun H hk hr => c_X9_firstError (l := l) (D := D) (cI := cI) (cC := cC) (cJ := cJ) (cG := cG) H hk hr T lm (P, Y, o, t, n, Fc, q, S, hi) d nw ct K A C ro sl A2 C2 ro2 sl2 W M hx , fun h => Ct_val (c_X10_firstError (l := l) (D := D) (cI := cI) (cC := cC) (cJ := cJ) (cG := cG) h F Q ft B Bt a1 a2 a3 a4 a5 fr Wm Mm km lm sp rm _ hft hle hfr rfl) (by rw [erI_oI, hre])⟩

theorem st_configure (hI : Inv x m) : StepP l D cI cC cJ cG yX9_configure wsX9_configure yX10_configure wsX10_configure [] x m := by
  obtain ⟨T, le, g, d, nw, ct, K, A, C, ro, sl, A2, C2, ro2, sl2, W, M⟩ := x
  obtain ⟨F, Q, ft, B, Bt, a1, a2, a3, a4, a5, fr, Wm, Mm, km, lm, sp, rm⟩ := m
  obtain ⟨hx, hg, hh, ⟨⟨hlm, hft⟩, hT2⟩, hc, hB, hb1, hb3, hfr⟩ := id hI
  obtain ⟨hT, hle, hgo, hdo, hnw, hct, hKk, hA, hC, hsl, hA2, hC2, hsl2⟩ := id hx
  obtain ⟨P, Y, o, t, n, Fc, q, S, hi⟩ := g
  dsimp only at hx hg hh hlm hft hT2 hc hB hb1 hb3 hfr hT hle hgo hdo hnw hct hKk hA hC hsl hA2 hC2 hsl2
  obtain ⟨g1, g2, g3, g4, g5, g6, g7, g8, g9⟩ := id hgo
  dsimp only at g1 g2 g3 g4 g5 g6 g7 g8 g9
  obtain ⟨⟨hP, hY, e0, e1, e2, e3, e4, hru⟩, ⟨e86, hsk⟩, e85, hq, hY1, htP, huv, hS4, hFb⟩ := id hg
  dsimp only at hP hY e0 e1 e2 e3 e4 hru e86 hsk e85 hq hY1 htP huv hS4 hFb
  obtain ⟨k0, hQb, hK9⟩ := id hh
  subst hlm
  obtain ⟨hre, hrp⟩ := rd_eq hT2 hdo.2.2.2.2.2.1
  have hdk : dOk (rd T lm d.2.2.2.2.2.1).2 := rd_ok hdo.2.2.2.2.2.1
  have hrk := ra_ok (ft := ft) (le := lm) (lm + 1) E0 0 E0_ok
  by_cases hl : lm = 0
  · exact ⟨(-2), (T, lm, (P, Y, o, t, n, Fc, q, S, hi), d, nw, ct, K, A, C, ro, sl, A2, C2, ro2, sl2, W, M), RT, fun u => (∀ i, 99 ≤ i → u.2 i = nI 0), fun u => (F, Q, ft, B, Bt, a1, a2, a3, a4, a5, u.2, Wm, Mm, km, lm, u.1, rm), 6, 5, by decide, by decide, fun u hu => ⟨⟨hT, hle, hgo, hdo, hnw, hct, hKk, hA, hC, hsl, hA2, hC2, hsl2⟩, hg, hh, ⟨⟨rfl, hft⟩, hT2⟩, hc, hB, hb1, hb3, hu⟩, fun H hk hr => c_X9_configure0 (l := l) (D := D) (cI := cI) (cC := cC) (cJ := cJ) (cG := cG) H hk hr T lm (P, Y, o, t, n, Fc, q, S, hi) d nw ct K A C ro sl A2 C2 ro2 sl2 W M hx hl, fun h => c_X10_configureN (l := l) (D := D) (cI := cI) (cC := cC) (cJ := cJ) (cG := cG) h F Q ft B Bt a1 a2 a3 a4 a5 fr Wm Mm km lm sp rm _ hft hle hfr rfl (fun _ => hl)⟩
  · cases hr9 : (rd T lm d.2.2.2.2.2.1).1 with
    | some k =>
      have hr8 : ∀ m, (rd T lm d.2.2.2.2.2.1).1 = some m → m < 1000 := fun m hm => by
        have h9 := hrk.2 m (by rw [← hre]; exact hm)
        omega
      exact ⟨(-2), (T, lm, (P, Y, o, t, n, Fc, q, S, hi), dG (rd T lm d.2.2.2.2.2.1).2, nw, ct, K, A, C, ro, sl, A2, C2, ro2, sl2, W, M), RT, fun u => (∀ i, 99 ≤ i → u.2 i = nI 0), fun u => (F, Q, ft, B, Bt, a1, a2, a3, a4, a5, u.2, Wm, Mm, km, lm, u.1, rm), 6, 5, by decide, by decide, fun u hu => ⟨⟨hT, hle, hgo, dG_ok hdk, hnw, hct, hKk, hA, hC, hsl, hA2, hC2, hsl2⟩, hg, hh, ⟨⟨rfl, hft⟩, hT2⟩, hc, hB, hb1, hb3, hu⟩, fun H hk hr => c_X9_configureE (l := l) (D := D) (cI := cI) (cC := cC) (cJ := cJ) (cG := cG) H hk hr T lm (P, Y, o, t, n, Fc, q, S, hi) d nw ct K A C ro sl A2 C2 ro2 sl2 W M hx hl (by rw [hr9]; simp) hr8, fun h => c_X10_configureN (l := l) (D := D) (cI := cI) (cC := cC) (cJ := cJ) (cG := cG) h F Q ft B Bt a1 a2 a3 a4 a5 fr Wm Mm km lm sp rm _ hft hle hfr rfl (fun hz => absurd hz (by rw [← hre, hr9]; simp))⟩
    | none =>
      have hp := hrp hr9
      have hx2 : xOk T lm (P, Y, o, t, n, Fc, q, S, hi) (dG (rd T lm d.2.2.2.2.2.1).2) nw ct K A C sl A2 C2 sl2 := ⟨hT, hle, hgo, dG_ok hdk, hnw, hct, hKk, hA, hC, hsl, hA2, hC2, hsl2⟩
      have hcf := gR_conf (g := (P, Y, o, t, n, Fc, q, S, hi)) hp (by omega) hFb
      have e49 : (raM ft lm (lm + 1) E0 0).2 4 = (rd T lm d.2.2.2.2.2.1).2.2.2.2.2.1 := by
        rcases hp with ⟨hz, -⟩ | ⟨-, hgg, -⟩
        · omega
        · exact hgg.1.2.2.2.2.2.2.1
      exact ⟨(nI ((rd T lm d.2.2.2.2.2.1).2.2.2.2.2.1)), (T, lm, rsG (dG (rd T lm d.2.2.2.2.2.1).2) (P, Y, o, t, n, Fc, q, S, hi), dG (rd T lm d.2.2.2.2.2.1).2, nw, 0, K, A, C, ro, 1, A2, C2, ro2, sl2, W, M), RT, fun u => (∀ i, 99 ≤ i → u.2 i = nI 0), fun u => (updN (cpyN (raM ft lm (lm + 1) E0 0).2 F 99) 86 1, Q, ft, B, Bt, a1, a2, a3, a4, a5, u.2, Wm, Mm, 0, lm, u.1, rm), 6, 5, by decide, by decide, fun u hu => ⟨⟨hT, hle, gOk_rs (dG_ok hdk) hgo, dG_ok hdk, hnw, Nat.zero_le _, hKk, hA, hC, Nat.le_of_ble_eq_true rfl, hA2, hC2, hsl2⟩, hcf, ⟨rfl, hQb, fun j hj => absurd hj (Nat.not_lt_zero _)⟩, ⟨⟨rfl, hft⟩, hT2⟩, fun h => absurd h Nat.one_ne_zero, hB, hb1, hb3, hu⟩, fun H hk hr => c_X9_configure (l := l) (D := D) (cI := cI) (cC := cC) (cJ := cJ) (cG := cG) H hk hr T lm (P, Y, o, t, n, Fc, q, S, hi) d nw ct K A C ro sl A2 C2 ro2 sl2 W M hx hl hr9 hx2, fun h => Ct_val (c_X10_configure (l := l) (D := D) (cI := cI) (cC := cC) (cJ := cJ) (cG := cG) h F Q ft B Bt a1 a2 a3 a4 a5 fr Wm Mm km lm sp rm _ hft hle hfr rfl (by rw [← hre]; exact hr9) (by omega)) (by rw [e49])⟩
end Steps5
