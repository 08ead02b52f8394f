section Steps2
theorem Ct_val {l : Launch} {D : va_G} {tys : List (ClassId × FieldType)} {y : MethodName} {w : List Cond} {rm : Room} {av : List Value} {ws : va_W} {S : Type} {psi : S → Prop} {v v' : Value} {wo : S → va_W} (h : Ct l y w rm D tys av ws psi (fun _ => some v) wo) (e : v = v') : Ct l y w rm D tys av ws psi (fun _ => some v') wo := by
  subst e
  exact h
theorem in2 {y : Int32} (h : inR y 2 = false) : y ≠ 0 ∧ y ≠ 1 := by
  constructor
  · intro e
    rw [e, show (0 : Int32) = nI 0 from rfl, inR_nI (by decide) (by decide)] at h
    exact absurd h (by decide)
  · intro e
    rw [e, show (1 : Int32) = nI 1 from rfl, inR_nI (by decide) (by decide)] at h
    exact absurd h (by decide)
theorem inv_chg {T : Nat → Nat} {le : Nat} {g d g' : GT} {nw ct : Nat} {K : Nat → GT} {A C : Nat → Nat} {ro sl : Nat} {A2 C2 : Nat → Nat} {ro2 sl2 : Nat} {W M : Nat → Int64} {F F' Q ft B Bt a1 a2 a3 a4 a5 : Nat → Nat} {fr : Nat → Int32} {Wm Mm : Nat → Int64} {km lm sp rm : Nat}
    (hI : Inv (T, le, g, d, nw, ct, K, A, C, ro, sl, A2, C2, ro2, sl2, W, M) (F, Q, ft, B, Bt, a1, a2, a3, a4, a5, fr, Wm, Mm, km, lm, sp, rm)) (hg' : gR g' F') (ho' : gOk g') : Inv (T, le, g', d, (nw + 1) % 6, min (ct + 1) 6, kpG K ((nw + 1) % 6) g, A, C, ro, 1, A2, C2, ro2, sl2, W, M) (F', kpQ km Q F, ft, B, Bt, a1, a2, a3, a4, a5, fr, Wm, Mm, min (km + 1) 6, lm, sp, rm) := by
  obtain ⟨hx, hg, hh, ht, hc, hB, hb1, hb3, hfr⟩ := id hI
  obtain ⟨hT, hle, hgo, hdo, hnw, hct, hKk, hA, hC, hsl, hA2, hC2, hsl2⟩ := id hx
  dsimp only at hx hg hh ht hc hB hb1 hb3 hfr hT hle hgo hdo hnw hct hKk hA hC hsl hA2 hC2 hsl2
  exact ⟨⟨hT, hle, ho', hdo, by dsimp only; omega, by dsimp only; omega, gOk_kp hgo hKk, hA, hC, Nat.le_of_ble_eq_true rfl, hA2, hC2, hsl2⟩, hg', hR_keep hh hg hgo hKk hnw hct, ht, fun h => absurd h Nat.one_ne_zero, hB, hb1, hb3, hfr⟩
theorem inv_mov {T : Nat → Nat} {le : Nat} {d : GT} {P Y o t n q S hi q' S' hi' : Nat} {Fc : Nat → Nat} {nw ct : Nat} {K : Nat → GT} {A C : Nat → Nat} {ro sl : Nat} {A2 C2 : Nat → Nat} {ro2 sl2 : Nat} {W M : Nat → Int64} {F F' Q ft B Bt a1 a2 a3 a4 a5 : Nat → Nat} {fr : Nat → Int32} {Wm Mm : Nat → Int64} {km lm sp rm : Nat}
    (hI : Inv (T, le, (P, Y, o, t, n, Fc, q, S, hi), d, nw, ct, K, A, C, ro, sl, A2, C2, ro2, sl2, W, M) (F, Q, ft, B, Bt, a1, a2, a3, a4, a5, fr, Wm, Mm, km, lm, sp, rm)) (hg' : gR (P, Y, o, t, n, Fc, q', S', hi') F') (ho' : gOk (P, Y, o, t, n, Fc, q', S', hi')) : Inv (T, le, (P, Y, o, t, n, Fc, q', S', hi'), d, (nw + 1) % 6, min (ct + 1) 6, kpG K ((nw + 1) % 6) (P, Y, o, t, n, Fc, q, S, hi), A, C, ro, sl, A2, C2, ro2, sl2, W, M) (F', kpQ km Q F, ft, B, Bt, a1, a2, a3, a4, a5, fr, Wm, Mm, min (km + 1) 6, lm, sp, rm) := by
  obtain ⟨hx, hg, hh, ht, hc, hB, hb1, hb3, hfr⟩ := id hI
  obtain ⟨hT, hle, hgo, hdo, hnw, hct, hKk, hA, hC, hsl, hA2, hC2, hsl2⟩ := id hx
  dsimp only at hx hg hh ht hc hB hb1 hb3 hfr hT hle hgo hdo hnw hct hKk hA hC hsl hA2 hC2 hsl2
  exact ⟨⟨hT, hle, ho', hdo, by dsimp only; omega, by dsimp only; omega, gOk_kp hgo hKk, hA, hC, hsl, hA2, hC2, hsl2⟩, hg', hR_keep hh hg hgo hKk hnw hct, ht, hc, hB, hb1, hb3, hfr⟩
theorem plB_eq {P Y o t n q S h j : Nat} {Fc F : Nat → Nat} (hR : gR (P, Y, o, t, n, Fc, q, S, h) F) (hj : j < n) : plB F j = decide (0 < h ∧ Fc j % 16 = q + 4 * (S % 4)) := by
  obtain ⟨r0, r1, r2, r3, r4, l0, l1, l2, l3, l4, l5⟩ := gR_ru hR hj
  have e86 := gR_86 hR
  have e85 : F 85 = q := hR.2.2.1
  have hP : P ≤ 4 := hR.1.1
  have hq : q < P := hR.2.2.2.1
  unfold plB
  rw [r0, r1, e85, e86]
  by_cases h0 : 0 < h
  · have hs := (hR.2.1.2 (h - 1) (by show h - 1 < h; omega)).1
    rw [show 87 + (h - 1) = 87 + h - 1 by omega] at hs
    dsimp only at hs
    rw [show h - 1 - (h - 1) = 0 by omega, Nat.pow_zero, Nat.div_one] at hs
    rw [hs]
    congr 1
    refine propext ⟨fun z => ⟨h0, by omega⟩, fun z => ⟨by omega, h0, by omega⟩⟩
  · rw [decide_eq_false (fun z => h0 z.2.1), decide_eq_false (fun z => h0 z.1)]
theorem plN_eq {P Y o t n q S h : Nat} {Fc F : Nat → Nat} (hR : gR (P, Y, o, t, n, Fc, q, S, h) F) : ∀ r, r ≤ n → plN F r = plC q S h Fc r
  | 0, _ => rfl
  | r + 1, hr => by
    unfold plN plC
    rw [plN_eq hR r (by omega), plB_eq hR (by omega)]
theorem pus_eq {P Y o t n q S h j : Nat} {Fc F : Nat → Nat} (hR : gR (P, Y, o, t, n, Fc, q, S, h) F) (hj : j < n) : h - 1 + pusN F j = hAft h (Fc j) := by
  obtain ⟨r0, r1, r2, r3, r4, l0, l1, l2, l3, l4, l5⟩ := gR_ru hR hj
  unfold pusN hAft
  rw [r3, r4]
  omega
theorem hrC_eq {P Y o t n q S h a b : Nat} {Fc F : Nat → Nat} (hR : gR (P, Y, o, t, n, Fc, q, S, h) F) (ha : a < 4) : ∀ r, r ≤ n → hrC F a b r = rcnt Fc (a + 4 * b) r
  | 0, _ => rfl
  | r + 1, hr => by
    obtain ⟨r0, r1, r2, r3, r4, l0, l1, l2, l3, l4, l5⟩ := gR_ru hR (show r < n by omega)
    unfold hrC rcnt
    rw [hrC_eq hR ha r (by omega), r0, r1]
    congr 1
    by_cases hz : Fc r % 16 = a + 4 * b
    · rw [if_pos hz, if_pos (by omega)]
    · rw [if_neg hz, if_neg (by omega)]
theorem isW_ex {x3 x4 : Int32} {Y : Nat} (hY : Y ≤ 3) (h : isW x3 x4 Y = true) : ∃ u v : Nat, x3 = nI u - nI 1 ∧ x4 = nI v - nI 1 ∧ u ≤ Y ∧ v ≤ Y ∧ (u = 0 → v = 0) := by
  unfold isW at h
  have hm : ((-1) : Int32) = nI 0 - nI 1 := by decide
  split at h
  · rename_i h3
    rw [decide_eq_true_eq] at h
    exact ⟨0, 0, h3.trans hm, h.trans hm, by omega, by omega, fun _ => rfl⟩
  · rw [Bool.and_eq_true, Bool.or_eq_true, decide_eq_true_eq] at h
    obtain ⟨u, hu, e3⟩ := inR_ex (by omega) h.1
    rcases h.2 with h4 | h4
    · exact ⟨u + 1, 0, by rw [e3, nI_p1], h4.trans hm, by omega, by omega, fun z => by omega⟩
    · obtain ⟨v, hv, e4⟩ := inR_ex (by omega) h4
      exact ⟨u + 1, v + 1, by rw [e3, nI_p1], by rw [e4, nI_p1], by omega, by omega, fun z => by omega⟩
variable {l : Launch} {D : va_G} {cI cC cJ cG : ClassId} {x : XSt} {m : MSt}
theorem st_setOwner (a b : Int32) (hI : Inv x m) : StepP l D cI cC cJ cG yX9_setOwner wsX9_setOwner yX10_setOwner wsX10_setOwner [.int a, .int b] x m := by
  obtain ⟨T, le, g, d, nw, ct, K, A, C, ro, sl, A2, C2, ro2, sl2, W, M⟩ := x
  obtain ⟨F, Q, ft, B, Bt, a1, a2, a3, a4, a5, fr, Wm, Mm, km, lm, sp, rm⟩ := m
  obtain ⟨hx, hg, hh, ⟨⟨hlm, hft⟩, hT2⟩, hc, hB, hb1, hb3, hfr⟩ := id hI
  obtain ⟨hT, hle, hgo, hdo, hnw, hct, hKk, hA, hC, hsl, hA2, hC2, hsl2⟩ := id hx
  obtain ⟨P, Y, o, t, n, Fc, q, S, hi⟩ := g
  dsimp only at hx hg hh hlm hft hT2 hc hB hb1 hb3 hfr hT hle hgo hdo hnw hct hKk hA hC hsl hA2 hC2 hsl2
  obtain ⟨g1, g2, g3, g4, g5, g6, g7, g8, g9⟩ := id hgo
  dsimp only at g1 g2 g3 g4 g5 g6 g7 g8 g9
  obtain ⟨⟨hP, hY, e0, e1, e2, e3, e4, hru⟩, ⟨e86, hsk⟩, e85, hq, hY1, htP, huv, hS4, hFb⟩ := id hg
  dsimp only at hP hY e0 e1 e2 e3 e4 hru e86 hsk e85 hq hY1 htP huv hS4 hFb
  obtain ⟨k0, hQb, hK9⟩ := id hh
  cases hv : inR a P with
  | false => exact ⟨(-1), _, Unit, fun _ => True, fun _ => (F, Q, ft, B, Bt, a1, a2, a3, a4, a5, fr, Wm, Mm, km, lm, sp, rm), 6, 3, by decide, by decide, fun _ _ => hI, fun H hk hr => c_X9_setOwnerE (l := l) (D := D) (cI := cI) (cC := cC) (cJ := cJ) (cG := cG) H hk hr T le (P, Y, o, t, n, Fc, q, S, hi) d nw ct K A C ro sl A2 C2 ro2 sl2 W M hx a b (Or.inl hv), fun h => c_X10_setOwnerE (l := l) (D := D) (cI := cI) (cC := cC) (cJ := cJ) (cG := cG) h F Q ft B Bt a1 a2 a3 a4 a5 fr Wm Mm km lm sp rm a b hFb (Or.inl (by rw [e0]; exact hv))⟩
  | true =>
    cases hw : inR b 2 with
    | false => exact ⟨(-1), _, Unit, fun _ => True, fun _ => (F, Q, ft, B, Bt, a1, a2, a3, a4, a5, fr, Wm, Mm, km, lm, sp, rm), 6, 3, by decide, by decide, fun _ _ => hI, fun H hk hr => c_X9_setOwnerE (l := l) (D := D) (cI := cI) (cC := cC) (cJ := cJ) (cG := cG) H hk hr T le (P, Y, o, t, n, Fc, q, S, hi) d nw ct K A C ro sl A2 C2 ro2 sl2 W M hx a b (Or.inr (in2 hw)), fun h => c_X10_setOwnerE (l := l) (D := D) (cI := cI) (cC := cC) (cJ := cJ) (cG := cG) h F Q ft B Bt a1 a2 a3 a4 a5 fr Wm Mm km lm sp rm a b hFb (Or.inr hw)⟩
    | true =>
      obtain ⟨j, hj, rfl⟩ := inR_ex (by omega) hv
      obtain ⟨b, hb, rfl⟩ := inR_ex (by decide) hw
      exact ⟨(nI (bt o j)), (T, le, (P, Y, wbit o j b, t, n, Fc, q, S, hi), d, (nw + 1) % 6, min (ct + 1) 6, kpG K ((nw + 1) % 6) (P, Y, o, t, n, Fc, q, S, hi), A, C, ro, 1, A2, C2, ro2, sl2, W, M), Unit, fun _ => True, fun _ => (updN F 2 (wbit (F 2) j b), kpQ km Q F, ft, B, Bt, a1, a2, a3, a4, a5, fr, Wm, Mm, min (km + 1) 6, lm, sp, rm), 6, 3, by decide, by decide, fun _ _ => inv_chg hI (rel_own hg g3 hj hb) ⟨g1, g2, wbit_lt o g3 j (by omega) b hb, g4, g5, g6, g7, g8, g9⟩, fun H hk hr => c_X9_setOwner (l := l) (D := D) (cI := cI) (cC := cC) (cJ := cJ) (cG := cG) H hk hr T le (P, Y, o, t, n, Fc, q, S, hi) d nw ct K A C ro sl A2 C2 ro2 sl2 W M hx j b hj hb, fun h => Ct_val (c_X10_setOwner (l := l) (D := D) (cI := cI) (cC := cC) (cJ := cJ) (cG := cG) h F Q ft B Bt a1 a2 a3 a4 a5 fr Wm Mm km lm sp rm j b hFb (by rw [e0]; exact hj) (by rw [e0]; exact g1) (by rw [e2]; exact g3) hb (by rw [k0]; exact hct)) (by rw [e2])⟩

theorem st_setTarget (a b : Int32) (hI : Inv x m) : StepP l D cI cC cJ cG yX9_setTarget wsX9_setTarget yX10_setTarget wsX10_setTarget [.int a, .int b] x m := by
  obtain ⟨T, le, g, d, nw, ct, K, A, C, ro, sl, A2, C2, ro2, sl2, W, M⟩ := x
  obtain ⟨F, Q, ft, B, Bt, a1, a2, a3, a4, a5, fr, Wm, Mm, km, lm, sp, rm⟩ := m
  obtain ⟨hx, hg, hh, ⟨⟨hlm, hft⟩, hT2⟩, hc, hB, hb1, hb3, hfr⟩ := id hI
  obtain ⟨hT, hle, hgo, hdo, hnw, hct, hKk, hA, hC, hsl, hA2, hC2, hsl2⟩ := id hx
  obtain ⟨P, Y, o, t, n, Fc, q, S, hi⟩ := g
  dsimp only at hx hg hh hlm hft hT2 hc hB hb1 hb3 hfr hT hle hgo hdo hnw hct hKk hA hC hsl hA2 hC2 hsl2
  obtain ⟨g1, g2, g3, g4, g5, g6, g7, g8, g9⟩ := id hgo
  dsimp only at g1 g2 g3 g4 g5 g6 g7 g8 g9
  obtain ⟨⟨hP, hY, e0, e1, e2, e3, e4, hru⟩, ⟨e86, hsk⟩, e85, hq, hY1, htP, huv, hS4, hFb⟩ := id hg
  dsimp only at hP hY e0 e1 e2 e3 e4 hru e86 hsk e85 hq hY1 htP huv hS4 hFb
  obtain ⟨k0, hQb, hK9⟩ := id hh
  cases hv : inR a P with
  | false => exact ⟨(-1), _, Unit, fun _ => True, fun _ => (F, Q, ft, B, Bt, a1, a2, a3, a4, a5, fr, Wm, Mm, km, lm, sp, rm), 6, 3, by decide, by decide, fun _ _ => hI, fun H hk hr => c_X9_setTargetE (l := l) (D := D) (cI := cI) (cC := cC) (cJ := cJ) (cG := cG) H hk hr T le (P, Y, o, t, n, Fc, q, S, hi) d nw ct K A C ro sl A2 C2 ro2 sl2 W M hx a b (Or.inl hv), fun h => c_X10_setTargetE (l := l) (D := D) (cI := cI) (cC := cC) (cJ := cJ) (cG := cG) h F Q ft B Bt a1 a2 a3 a4 a5 fr Wm Mm km lm sp rm a b hFb (Or.inl (by rw [e0]; exact hv))⟩
  | true =>
    cases hw : inR b 2 with
    | false => exact ⟨(-1), _, Unit, fun _ => True, fun _ => (F, Q, ft, B, Bt, a1, a2, a3, a4, a5, fr, Wm, Mm, km, lm, sp, rm), 6, 3, by decide, by decide, fun _ _ => hI, fun H hk hr => c_X9_setTargetE (l := l) (D := D) (cI := cI) (cC := cC) (cJ := cJ) (cG := cG) H hk hr T le (P, Y, o, t, n, Fc, q, S, hi) d nw ct K A C ro sl A2 C2 ro2 sl2 W M hx a b (Or.inr (in2 hw)), fun h => c_X10_setTargetE (l := l) (D := D) (cI := cI) (cC := cC) (cJ := cJ) (cG := cG) h F Q ft B Bt a1 a2 a3 a4 a5 fr Wm Mm km lm sp rm a b hFb (Or.inr hw)⟩
    | true =>
      obtain ⟨j, hj, rfl⟩ := inR_ex (by omega) hv
      obtain ⟨b, hb, rfl⟩ := inR_ex (by decide) hw
      exact ⟨(nI (bt t j)), (T, le, (P, Y, o, wbit t j b, n, Fc, q, S, hi), d, (nw + 1) % 6, min (ct + 1) 6, kpG K ((nw + 1) % 6) (P, Y, o, t, n, Fc, q, S, hi), A, C, ro, 1, A2, C2, ro2, sl2, W, M), Unit, fun _ => True, fun _ => (updN F 3 (wbit (F 3) j b), kpQ km Q F, ft, B, Bt, a1, a2, a3, a4, a5, fr, Wm, Mm, min (km + 1) 6, lm, sp, rm), 6, 3, by decide, by decide, fun _ _ => inv_chg hI (rel_tgt hg g4 hj hb) ⟨g1, g2, g3, wbit_lt t g4 j (by omega) b hb, g5, g6, g7, g8, g9⟩, fun H hk hr => c_X9_setTarget (l := l) (D := D) (cI := cI) (cC := cC) (cJ := cJ) (cG := cG) H hk hr T le (P, Y, o, t, n, Fc, q, S, hi) d nw ct K A C ro sl A2 C2 ro2 sl2 W M hx j b hj hb, fun h => Ct_val (c_X10_setTarget (l := l) (D := D) (cI := cI) (cC := cC) (cJ := cJ) (cG := cG) h F Q ft B Bt a1 a2 a3 a4 a5 fr Wm Mm km lm sp rm j b hFb (by rw [e0]; exact hj) (by rw [e0]; exact g1) (by rw [e3]; exact g4) hb (by rw [k0]; exact hct)) (by rw [e3])⟩

theorem st_place (a : Int32) (hI : Inv x m) : StepP l D cI cC cJ cG yX9_place wsX9_place yX10_place wsX10_place [.int a] x m := by
  obtain ⟨T, le, g, d, nw, ct, K, A, C, ro, sl, A2, C2, ro2, sl2, W, M⟩ := x
  obtain ⟨F, Q, ft, B, Bt, a1, a2, a3, a4, a5, fr, Wm, Mm, km, lm, sp, rm⟩ := m
  obtain ⟨hx, hg, hh, ⟨⟨hlm, hft⟩, hT2⟩, hc, hB, hb1, hb3, hfr⟩ := id hI
  obtain ⟨hT, hle, hgo, hdo, hnw, hct, hKk, hA, hC, hsl, hA2, hC2, hsl2⟩ := id hx
  obtain ⟨P, Y, o, t, n, Fc, q, S, hi⟩ := g
  dsimp only at hx hg hh hlm hft hT2 hc hB hb1 hb3 hfr hT hle hgo hdo hnw hct hKk hA hC hsl hA2 hC2 hsl2
  obtain ⟨g1, g2, g3, g4, g5, g6, g7, g8, g9⟩ := id hgo
  dsimp only at g1 g2 g3 g4 g5 g6 g7 g8 g9
  obtain ⟨⟨hP, hY, e0, e1, e2, e3, e4, hru⟩, ⟨e86, hsk⟩, e85, hq, hY1, htP, huv, hS4, hFb⟩ := id hg
  dsimp only at hP hY e0 e1 e2 e3 e4 hru e86 hsk e85 hq hY1 htP huv hS4 hFb
  obtain ⟨k0, hQb, hK9⟩ := id hh
  cases hv : inR a P with
  | false => exact ⟨(-1), _, Unit, fun _ => True, fun _ => (F, Q, ft, B, Bt, a1, a2, a3, a4, a5, fr, Wm, Mm, km, lm, sp, rm), 6, 3, by decide, by decide, fun _ _ => hI, fun H hk hr => c_X9_placeE (l := l) (D := D) (cI := cI) (cC := cC) (cJ := cJ) (cG := cG) H hk hr T le (P, Y, o, t, n, Fc, q, S, hi) d nw ct K A C ro sl A2 C2 ro2 sl2 W M hx a hv, fun h => c_X10_placeE (l := l) (D := D) (cI := cI) (cC := cC) (cJ := cJ) (cG := cG) h F Q ft B Bt a1 a2 a3 a4 a5 fr Wm Mm km lm sp rm a hFb (by rw [e0]; exact hv)⟩
  | true =>
    obtain ⟨j, hj, rfl⟩ := inR_ex (by omega) hv
    exact ⟨(nI hi), (T, le, (P, Y, o, t, n, Fc, j, 0, 0), d, (nw + 1) % 6, min (ct + 1) 6, kpG K ((nw + 1) % 6) (P, Y, o, t, n, Fc, q, S, hi), A, C, ro, sl, A2, C2, ro2, sl2, W, M), Unit, fun _ => True, fun _ => (updN (updN F 85 j) 86 0, kpQ km Q F, ft, B, Bt, a1, a2, a3, a4, a5, fr, Wm, Mm, min (km + 1) 6, lm, sp, rm), 6, 3, by decide, by decide, fun _ _ => inv_mov hI (rel_place hg g5 hj) ⟨g1, g2, g3, g4, g5, g6, by dsimp only; omega, Nat.le_of_ble_eq_true rfl, Nat.le_of_ble_eq_true rfl⟩, fun H hk hr => c_X9_place (l := l) (D := D) (cI := cI) (cC := cC) (cJ := cJ) (cG := cG) H hk hr T le (P, Y, o, t, n, Fc, q, S, hi) d nw ct K A C ro sl A2 C2 ro2 sl2 W M hx j hj, fun h => Ct_val (c_X10_place (l := l) (D := D) (cI := cI) (cC := cC) (cJ := cJ) (cG := cG) h F Q ft B Bt a1 a2 a3 a4 a5 fr Wm Mm km lm sp rm j hFb (by rw [e0]; exact hj) (by rw [k0]; exact hct)) (by rw [e86])⟩

theorem st_push (a : Int32) (hI : Inv x m) : StepP l D cI cC cJ cG yX9_push wsX9_push yX10_push wsX10_push [.int a] x m := by
  obtain ⟨T, le, g, d, nw, ct, K, A, C, ro, sl, A2, C2, ro2, sl2, W, M⟩ := x
  obtain ⟨F, Q, ft, B, Bt, a1, a2, a3, a4, a5, fr, Wm, Mm, km, lm, sp, rm⟩ := m
  obtain ⟨hx, hg, hh, ⟨⟨hlm, hft⟩, hT2⟩, hc, hB, hb1, hb3, hfr⟩ := id hI
  obtain ⟨hT, hle, hgo, hdo, hnw, hct, hKk, hA, hC, hsl, hA2, hC2, hsl2⟩ := id hx
  obtain ⟨P, Y, o, t, n, Fc, q, S, hi⟩ := g
  dsimp only at hx hg hh hlm hft hT2 hc hB hb1 hb3 hfr hT hle hgo hdo hnw hct hKk hA hC hsl hA2 hC2 hsl2
  obtain ⟨g1, g2, g3, g4, g5, g6, g7, g8, g9⟩ := id hgo
  dsimp only at g1 g2 g3 g4 g5 g6 g7 g8 g9
  obtain ⟨⟨hP, hY, e0, e1, e2, e3, e4, hru⟩, ⟨e86, hsk⟩, e85, hq, hY1, htP, huv, hS4, hFb⟩ := id hg
  dsimp only at hP hY e0 e1 e2 e3 e4 hru e86 hsk e85 hq hY1 htP huv hS4 hFb
  obtain ⟨k0, hQb, hK9⟩ := id hh
  cases hv : inR a Y with
  | false => exact ⟨(-1), _, Unit, fun _ => True, fun _ => (F, Q, ft, B, Bt, a1, a2, a3, a4, a5, fr, Wm, Mm, km, lm, sp, rm), 6, 3, by decide, by decide, fun _ _ => hI, fun H hk hr => c_X9_pushE (l := l) (D := D) (cI := cI) (cC := cC) (cJ := cJ) (cG := cG) H hk hr T le (P, Y, o, t, n, Fc, q, S, hi) d nw ct K A C ro sl A2 C2 ro2 sl2 W M hx a hv, fun h => c_X10_pushE (l := l) (D := D) (cI := cI) (cC := cC) (cJ := cJ) (cG := cG) h F Q ft B Bt a1 a2 a3 a4 a5 fr Wm Mm km lm sp rm a hFb (by rw [e1]; exact hv)⟩
  | true =>
    obtain ⟨j, hj, rfl⟩ := inR_ex (by omega) hv
    by_cases h12 : hi < 12
    · exact ⟨(nI (hi + 1)), (T, le, (P, Y, o, t, n, Fc, q, 4 * S + j, hi + 1), d, (nw + 1) % 6, min (ct + 1) 6, kpG K ((nw + 1) % 6) (P, Y, o, t, n, Fc, q, S, hi), A, C, ro, sl, A2, C2, ro2, sl2, W, M), Unit, fun _ => True, fun _ => (updN (updN F (87 + F 86) j) 86 (F 86 + 1), kpQ km Q F, ft, B, Bt, a1, a2, a3, a4, a5, fr, Wm, Mm, min (km + 1) 6, lm, sp, rm), 6, 3, by decide, by decide, fun _ _ => inv_mov hI (rel_push hg g5 h12 hj) ⟨g1, g2, g3, g4, g5, g6, g7, sk_24 (rel_push hg g5 h12 hj).2.2.2.2.2.2.2.1 (by dsimp only; omega), by dsimp only; omega⟩, fun H hk hr => c_X9_push (l := l) (D := D) (cI := cI) (cC := cC) (cJ := cJ) (cG := cG) H hk hr T le (P, Y, o, t, n, Fc, q, S, hi) d nw ct K A C ro sl A2 C2 ro2 sl2 W M hx j hj h12, fun h => Ct_val (c_X10_push (l := l) (D := D) (cI := cI) (cC := cC) (cJ := cJ) (cG := cG) h F Q ft B Bt a1 a2 a3 a4 a5 fr Wm Mm km lm sp rm j hFb (by rw [e1]; exact hj) (by rw [e86]; exact h12) (by rw [k0]; exact hct)) (by rw [e86])⟩
    · exact ⟨(-3), _, Unit, fun _ => True, fun _ => (F, Q, ft, B, Bt, a1, a2, a3, a4, a5, fr, Wm, Mm, km, lm, sp, rm), 6, 3, by decide, by decide, fun _ _ => hI, fun H hk hr => c_X9_pushF (l := l) (D := D) (cI := cI) (cC := cC) (cJ := cJ) (cG := cG) H hk hr T le (P, Y, o, t, n, Fc, q, S, hi) d nw ct K A C ro sl A2 C2 ro2 sl2 W M hx j hj (by dsimp only; omega), fun h => c_X10_pushF (l := l) (D := D) (cI := cI) (cC := cC) (cJ := cJ) (cG := cG) h F Q ft B Bt a1 a2 a3 a4 a5 fr Wm Mm km lm sp rm j hFb (by rw [e1]; exact hj) (by omega)⟩

theorem st_play (a : Int32) (hI : Inv x m) : StepP l D cI cC cJ cG yX9_play wsX9_play yX10_play wsX10_play [.int a] x m := by
  obtain ⟨T, le, g, d, nw, ct, K, A, C, ro, sl, A2, C2, ro2, sl2, W, M⟩ := x
  obtain ⟨F, Q, ft, B, Bt, a1, a2, a3, a4, a5, fr, Wm, Mm, km, lm, sp, rm⟩ := m
  obtain ⟨hx, hg, hh, ⟨⟨hlm, hft⟩, hT2⟩, hc, hB, hb1, hb3, hfr⟩ := id hI
  obtain ⟨hT, hle, hgo, hdo, hnw, hct, hKk, hA, hC, hsl, hA2, hC2, hsl2⟩ := id hx
  obtain ⟨P, Y, o, t, n, Fc, q, S, hi⟩ := g
  dsimp only at hx hg hh hlm hft hT2 hc hB hb1 hb3 hfr hT hle hgo hdo hnw hct hKk hA hC hsl hA2 hC2 hsl2
  obtain ⟨g1, g2, g3, g4, g5, g6, g7, g8, g9⟩ := id hgo
  dsimp only at g1 g2 g3 g4 g5 g6 g7 g8 g9
  obtain ⟨⟨hP, hY, e0, e1, e2, e3, e4, hru⟩, ⟨e86, hsk⟩, e85, hq, hY1, htP, huv, hS4, hFb⟩ := id hg
  dsimp only at hP hY e0 e1 e2 e3 e4 hru e86 hsk e85 hq hY1 htP huv hS4 hFb
  obtain ⟨k0, hQb, hK9⟩ := id hh
  cases hv : inR a n with
  | false => exact ⟨(-1), _, Unit, fun _ => True, fun _ => (F, Q, ft, B, Bt, a1, a2, a3, a4, a5, fr, Wm, Mm, km, lm, sp, rm), 6, 3, by decide, by decide, fun _ _ => hI, fun H hk hr => c_X9_playE (l := l) (D := D) (cI := cI) (cC := cC) (cJ := cJ) (cG := cG) H hk hr T le (P, Y, o, t, n, Fc, q, S, hi) d nw ct K A C ro sl A2 C2 ro2 sl2 W M hx a hv, fun h => c_X10_playE (l := l) (D := D) (cI := cI) (cC := cC) (cJ := cJ) (cG := cG) h F Q ft B Bt a1 a2 a3 a4 a5 fr Wm Mm km lm sp rm a hFb (by rw [e4]; exact hv)⟩
  | true =>
    obtain ⟨j, hj, rfl⟩ := inR_ex (by omega) hv
    have hpe := plB_eq hg hj
    obtain ⟨r0, r1, r2, r3, r4, l0, l1, l2, l3, l4, l5⟩ := gR_ru hg hj
    have hpu := pus_eq hg hj
    by_cases hpl : 0 < hi ∧ Fc j % 16 = q + 4 * (S % 4)
    · rw [decide_eq_true hpl] at hpe
      by_cases hhi : hAft hi (Fc j) ≤ 12
      · exact ⟨(nI (Fc j / 16 % 4)), (T, le, (P, Y, o, t, n, Fc, Fc j / 16 % 4, sAft S (Fc j), hAft hi (Fc j)), d, (nw + 1) % 6, min (ct + 1) 6, kpG K ((nw + 1) % 6) (P, Y, o, t, n, Fc, q, S, hi), A, C, ro, sl, A2, C2, ro2, sl2, W, M), Unit, fun _ => True, fun _ => (plF F j, kpQ km Q F, ft, B, Bt, a1, a2, a3, a4, a5, fr, Wm, Mm, min (km + 1) 6, lm, sp, rm), 6, 3, by decide, by decide, fun _ _ => inv_mov hI (rel_play hg g5 hpl.1 g9 hj hhi) ⟨g1, g2, g3, g4, g5, g6, by dsimp only; omega, sk_24 (rel_play hg g5 hpl.1 g9 hj hhi).2.2.2.2.2.2.2.1 hhi, hhi⟩, fun H hk hr => c_X9_play (l := l) (D := D) (cI := cI) (cC := cC) (cJ := cJ) (cG := cG) H hk hr T le (P, Y, o, t, n, Fc, q, S, hi) d nw ct K A C ro sl A2 C2 ro2 sl2 W M hx j hj hpl hhi, fun h => Ct_val (c_X10_play (l := l) (D := D) (cI := cI) (cC := cC) (cJ := cJ) (cG := cG) h F Q ft B Bt a1 a2 a3 a4 a5 fr Wm Mm km lm sp rm j hFb (by rw [e4]; exact hj) (by rw [e4]; exact g5) (by rw [e86]; exact g9) hpe (by rw [e86, hpu]; exact hhi) (by rw [k0]; exact hct) (by omega) (by omega)) (by rw [r2])⟩
      · exact ⟨(-3), _, Unit, fun _ => True, fun _ => (F, Q, ft, B, Bt, a1, a2, a3, a4, a5, fr, Wm, Mm, km, lm, sp, rm), 6, 3, by decide, by decide, fun _ _ => hI, fun H hk hr => c_X9_playF (l := l) (D := D) (cI := cI) (cC := cC) (cJ := cJ) (cG := cG) H hk hr T le (P, Y, o, t, n, Fc, q, S, hi) d nw ct K A C ro sl A2 C2 ro2 sl2 W M hx j hj hpl (by dsimp only; omega), fun h => c_X10_playF (l := l) (D := D) (cI := cI) (cC := cC) (cJ := cJ) (cG := cG) h F Q ft B Bt a1 a2 a3 a4 a5 fr Wm Mm km lm sp rm j hFb (by rw [e4]; exact hj) (by rw [e4]; exact g5) (by rw [e86]; exact g9) hpe (by rw [e86, hpu]; omega)⟩
    · rw [decide_eq_false hpl] at hpe
      exact ⟨(-2), _, Unit, fun _ => True, fun _ => (F, Q, ft, B, Bt, a1, a2, a3, a4, a5, fr, Wm, Mm, km, lm, sp, rm), 6, 3, by decide, by decide, fun _ _ => hI, fun H hk hr => c_X9_playN (l := l) (D := D) (cI := cI) (cC := cC) (cJ := cJ) (cG := cG) H hk hr T le (P, Y, o, t, n, Fc, q, S, hi) d nw ct K A C ro sl A2 C2 ro2 sl2 W M hx j hj hpl, fun h => c_X10_playN (l := l) (D := D) (cI := cI) (cC := cC) (cJ := cJ) (cG := cG) h F Q ft B Bt a1 a2 a3 a4 a5 fr Wm Mm km lm sp rm j hFb (by rw [e4]; exact hj) (by rw [e4]; exact g5) (by rw [e86]; exact g9) hpe⟩

theorem st_removeRule (a : Int32) (hI : Inv x m) : StepP l D cI cC cJ cG yX9_removeRule wsX9_removeRule yX10_removeRule wsX10_removeRule [.int a] x m := by
  obtain ⟨T, le, g, d, nw, ct, K, A, C, ro, sl, A2, C2, ro2, sl2, W, M⟩ := x
  obtain ⟨F, Q, ft, B, Bt, a1, a2, a3, a4, a5, fr, Wm, Mm, km, lm, sp, rm⟩ := m
  obtain ⟨hx, hg, hh, ⟨⟨hlm, hft⟩, hT2⟩, hc, hB, hb1, hb3, hfr⟩ := id hI
  obtain ⟨hT, hle, hgo, hdo, hnw, hct, hKk, hA, hC, hsl, hA2, hC2, hsl2⟩ := id hx
  obtain ⟨P, Y, o, t, n, Fc, q, S, hi⟩ := g
  dsimp only at hx hg hh hlm hft hT2 hc hB hb1 hb3 hfr hT hle hgo hdo hnw hct hKk hA hC hsl hA2 hC2 hsl2
  obtain ⟨g1, g2, g3, g4, g5, g6, g7, g8, g9⟩ := id hgo
  dsimp only at g1 g2 g3 g4 g5 g6 g7 g8 g9
  obtain ⟨⟨hP, hY, e0, e1, e2, e3, e4, hru⟩, ⟨e86, hsk⟩, e85, hq, hY1, htP, huv, hS4, hFb⟩ := id hg
  dsimp only at hP hY e0 e1 e2 e3 e4 hru e86 hsk e85 hq hY1 htP huv hS4 hFb
  obtain ⟨k0, hQb, hK9⟩ := id hh
  cases hv : inR a n with
  | false => exact ⟨(-1), _, Unit, fun _ => True, fun _ => (F, Q, ft, B, Bt, a1, a2, a3, a4, a5, fr, Wm, Mm, km, lm, sp, rm), 6, 3, by decide, by decide, fun _ _ => hI, fun H hk hr => c_X9_removeRuleE (l := l) (D := D) (cI := cI) (cC := cC) (cJ := cJ) (cG := cG) H hk hr T le (P, Y, o, t, n, Fc, q, S, hi) d nw ct K A C ro sl A2 C2 ro2 sl2 W M hx a hv, fun h => c_X10_removeRuleE (l := l) (D := D) (cI := cI) (cC := cC) (cJ := cJ) (cG := cG) h F Q ft B Bt a1 a2 a3 a4 a5 fr Wm Mm km lm sp rm a hFb (by rw [e4]; exact hv)⟩
  | true =>
    obtain ⟨j, hj, rfl⟩ := inR_ex (by omega) hv
    exact ⟨(nI (n - 1)), (T, le, (P, Y, o, t, n - 1, drpN Fc j n, q, S, hi), d, (nw + 1) % 6, min (ct + 1) 6, kpG K ((nw + 1) % 6) (P, Y, o, t, n, Fc, q, S, hi), A, C, ro, 1, A2, C2, ro2, sl2, W, M), Unit, fun _ => True, fun _ => (rmF F j (5 + 5 * (F 4 - 1)), kpQ km Q F, ft, B, Bt, a1, a2, a3, a4, a5, fr, Wm, Mm, min (km + 1) 6, lm, sp, rm), 6, 3, by decide, by decide, fun _ _ => inv_chg hI (rel_rm hg g5 hj) ⟨g1, g2, g3, g4, by dsimp only; omega, fun i => by dsimp only; unfold drpN; split <;> exact g6 _, g7, g8, g9⟩, fun H hk hr => c_X9_removeRule (l := l) (D := D) (cI := cI) (cC := cC) (cJ := cJ) (cG := cG) H hk hr T le (P, Y, o, t, n, Fc, q, S, hi) d nw ct K A C ro sl A2 C2 ro2 sl2 W M hx j hj, fun h => Ct_val (c_X10_removeRule (l := l) (D := D) (cI := cI) (cC := cC) (cJ := cJ) (cG := cG) h F Q ft B Bt a1 a2 a3 a4 a5 fr Wm Mm km lm sp rm j hFb (by rw [e4]; exact hj) (by rw [e4]; exact g5) (by rw [k0]; exact hct)) (by rw [e4])⟩

theorem st_undo (hI : Inv x m) : StepP l D cI cC cJ cG yX9_undo wsX9_undo yX10_undo wsX10_undo [] x m := by
  obtain ⟨T, le, g, d, nw, ct, K, A, C, ro, sl, A2, C2, ro2, sl2, W, M⟩ := x
  obtain ⟨F, Q, ft, B, Bt, a1, a2, a3, a4, a5, fr, Wm, Mm, km, lm, sp, rm⟩ := m
  obtain ⟨hx, hg, hh, ⟨⟨hlm, hft⟩, hT2⟩, hc, hB, hb1, hb3, hfr⟩ := id hI
  obtain ⟨hT, hle, hgo, hdo, hnw, hct, hKk, hA, hC, hsl, hA2, hC2, hsl2⟩ := id hx
  obtain ⟨P, Y, o, t, n, Fc, q, S, hi⟩ := g
  dsimp only at hx hg hh hlm hft hT2 hc hB hb1 hb3 hfr hT hle hgo hdo hnw hct hKk hA hC hsl hA2 hC2 hsl2
  obtain ⟨g1, g2, g3, g4, g5, g6, g7, g8, g9⟩ := id hgo
  dsimp only at g1 g2 g3 g4 g5 g6 g7 g8 g9
  obtain ⟨⟨hP, hY, e0, e1, e2, e3, e4, hru⟩, ⟨e86, hsk⟩, e85, hq, hY1, htP, huv, hS4, hFb⟩ := id hg
  dsimp only at hP hY e0 e1 e2 e3 e4 hru e86 hsk e85 hq hY1 htP huv hS4 hFb
  obtain ⟨k0, hQb, hK9⟩ := id hh
  by_cases hz : ct = 0
  · exact ⟨(-2), _, Unit, fun _ => True, fun _ => (F, Q, ft, B, Bt, a1, a2, a3, a4, a5, fr, Wm, Mm, km, lm, sp, rm), 6, 0, by decide, by decide, fun _ _ => hI, fun H hk hr => c_X9_undoZ (l := l) (D := D) (cI := cI) (cC := cC) (cJ := cJ) (cG := cG) H hk hr T le (P, Y, o, t, n, Fc, q, S, hi) d nw ct K A C ro sl A2 C2 ro2 sl2 W M hx hz, fun h => c_X10_undoZ (l := l) (D := D) (cI := cI) (cC := cC) (cJ := cJ) (cG := cG) h F Q ft B Bt a1 a2 a3 a4 a5 fr Wm Mm km lm sp rm (k0.trans hz)⟩
  · have h1 : 1 ≤ ct := by omega
    exact ⟨(nI (ct - 1)), (T, le, rsG (K nw) (P, Y, o, t, n, Fc, q, S, hi), d, (nw + 5) % 6, ct - 1, K, A, C, ro, 1, A2, C2, ro2, sl2, W, M), Unit, fun _ => True, fun _ => (unF F Q (km - 1) 99, Q, ft, B, Bt, a1, a2, a3, a4, a5, fr, Wm, Mm, km - 1, lm, sp, rm), 6, 0, by decide, by decide, fun _ _ => ⟨⟨hT, hle, gOk_rs (hKk nw) hgo, hdo, by dsimp only; omega, by dsimp only; omega, hKk, hA, hC, Nat.le_of_ble_eq_true rfl, hA2, hC2, hsl2⟩, gR_undo hh hKk hFb hnw h1, hR_undo hh hnw hct h1, ⟨⟨hlm, hft⟩, hT2⟩, fun h => absurd h Nat.one_ne_zero, hB, hb1, hb3, hfr⟩, fun H hk hr => c_X9_undo (l := l) (D := D) (cI := cI) (cC := cC) (cJ := cJ) (cG := cG) H hk hr T le (P, Y, o, t, n, Fc, q, S, hi) d nw ct K A C ro sl A2 C2 ro2 sl2 W M hx h1, fun h => Ct_val (c_X10_undo (l := l) (D := D) (cI := cI) (cC := cC) (cJ := cJ) (cG := cG) h F Q ft B Bt a1 a2 a3 a4 a5 fr Wm Mm km lm sp rm (by omega) (by omega)) (by rw [k0])⟩

theorem st_playableRules (hI : Inv x m) : StepP l D cI cC cJ cG yX9_playableRules wsX9_playableRules yX10_playableRules wsX10_playableRules [] x m := by
  obtain ⟨T, le, g, d, nw, ct, K, A, C, ro, sl, A2, C2, ro2, sl2, W, M⟩ := x
  obtain ⟨F, Q, ft, B, Bt, a1, a2, a3, a4, a5, fr, Wm, Mm, km, lm, sp, rm⟩ := m
  obtain ⟨hx, hg, hh, ⟨⟨hlm, hft⟩, hT2⟩, hc, hB, hb1, hb3, hfr⟩ := id hI
  obtain ⟨hT, hle, hgo, hdo, hnw, hct, hKk, hA, hC, hsl, hA2, hC2, hsl2⟩ := id hx
  obtain ⟨P, Y, o, t, n, Fc, q, S, hi⟩ := g
  dsimp only at hx hg hh hlm hft hT2 hc hB hb1 hb3 hfr hT hle hgo hdo hnw hct hKk hA hC hsl hA2 hC2 hsl2
  obtain ⟨g1, g2, g3, g4, g5, g6, g7, g8, g9⟩ := id hgo
  dsimp only at g1 g2 g3 g4 g5 g6 g7 g8 g9
  obtain ⟨⟨hP, hY, e0, e1, e2, e3, e4, hru⟩, ⟨e86, hsk⟩, e85, hq, hY1, htP, huv, hS4, hFb⟩ := id hg
  dsimp only at hP hY e0 e1 e2 e3 e4 hru e86 hsk e85 hq hY1 htP huv hS4 hFb
  obtain ⟨k0, hQb, hK9⟩ := id hh
  exact ⟨(nI (plC q S hi Fc n)), _, Unit, fun _ => True, fun _ => (F, Q, ft, B, Bt, a1, a2, a3, a4, a5, fr, Wm, Mm, km, lm, sp, rm), 6, 2, by decide, by decide, fun _ _ => hI, fun H hk hr => c_X9_playableRules (l := l) (D := D) (cI := cI) (cC := cC) (cJ := cJ) (cG := cG) H hk hr T le (P, Y, o, t, n, Fc, q, S, hi) d nw ct K A C ro sl A2 C2 ro2 sl2 W M hx , fun h => Ct_val (c_X10_playableRules (l := l) (D := D) (cI := cI) (cC := cC) (cJ := cJ) (cG := cG) h F Q ft B Bt a1 a2 a3 a4 a5 fr Wm Mm km lm sp rm hFb (by rw [e4]; exact g5) (by rw [e86]; exact g9)) (by rw [e4, plN_eq hg n (Nat.le_refl _)])⟩

theorem st_stackSymbol (a : Int32) (hI : Inv x m) : StepP l D cI cC cJ cG yX9_stackSymbol wsX9_stackSymbol yX10_stackSymbol wsX10_stackSymbol [.int a] x m := by
  obtain ⟨T, le, g, d, nw, ct, K, A, C, ro, sl, A2, C2, ro2, sl2, W, M⟩ := x
  obtain ⟨F, Q, ft, B, Bt, a1, a2, a3, a4, a5, fr, Wm, Mm, km, lm, sp, rm⟩ := m
  obtain ⟨hx, hg, hh, ⟨⟨hlm, hft⟩, hT2⟩, hc, hB, hb1, hb3, hfr⟩ := id hI
  obtain ⟨hT, hle, hgo, hdo, hnw, hct, hKk, hA, hC, hsl, hA2, hC2, hsl2⟩ := id hx
  obtain ⟨P, Y, o, t, n, Fc, q, S, hi⟩ := g
  dsimp only at hx hg hh hlm hft hT2 hc hB hb1 hb3 hfr hT hle hgo hdo hnw hct hKk hA hC hsl hA2 hC2 hsl2
  obtain ⟨g1, g2, g3, g4, g5, g6, g7, g8, g9⟩ := id hgo
  dsimp only at g1 g2 g3 g4 g5 g6 g7 g8 g9
  obtain ⟨⟨hP, hY, e0, e1, e2, e3, e4, hru⟩, ⟨e86, hsk⟩, e85, hq, hY1, htP, huv, hS4, hFb⟩ := id hg
  dsimp only at hP hY e0 e1 e2 e3 e4 hru e86 hsk e85 hq hY1 htP huv hS4 hFb
  obtain ⟨k0, hQb, hK9⟩ := id hh
  cases hv : inR a hi with
  | false => exact ⟨(-1), _, Unit, fun _ => True, fun _ => (F, Q, ft, B, Bt, a1, a2, a3, a4, a5, fr, Wm, Mm, km, lm, sp, rm), 6, 1, by decide, by decide, fun _ _ => hI, fun H hk hr => c_X9_stackSymbolE (l := l) (D := D) (cI := cI) (cC := cC) (cJ := cJ) (cG := cG) H hk hr T le (P, Y, o, t, n, Fc, q, S, hi) d nw ct K A C ro sl A2 C2 ro2 sl2 W M hx a hv, fun h => c_X10_stackSymbolE (l := l) (D := D) (cI := cI) (cC := cC) (cJ := cJ) (cG := cG) h F Q ft B Bt a1 a2 a3 a4 a5 fr Wm Mm km lm sp rm a hFb (by rw [e86]; exact hv)⟩
  | true =>
    obtain ⟨j, hj, rfl⟩ := inR_ex (by omega) hv
    have hz9 : F (87 + F 86 - 1 - j) = S / 4 ^ j % 4 := by
      have h9 := (hsk (hi - 1 - j) (by omega)).1
      rw [show hi - 1 - (hi - 1 - j) = j by omega] at h9
      rw [e86, show 87 + hi - 1 - j = 87 + (hi - 1 - j) by omega]
      exact h9
    exact ⟨(nI (S / 4 ^ j % 4)), _, Unit, fun _ => True, fun _ => (F, Q, ft, B, Bt, a1, a2, a3, a4, a5, fr, Wm, Mm, km, lm, sp, rm), 6, 1, by decide, by decide, fun _ _ => hI, fun H hk hr => c_X9_stackSymbol (l := l) (D := D) (cI := cI) (cC := cC) (cJ := cJ) (cG := cG) H hk hr T le (P, Y, o, t, n, Fc, q, S, hi) d nw ct K A C ro sl A2 C2 ro2 sl2 W M hx j hj, fun h => Ct_val (c_X10_stackSymbol (l := l) (D := D) (cI := cI) (cC := cC) (cJ := cJ) (cG := cG) h F Q ft B Bt a1 a2 a3 a4 a5 fr Wm Mm km lm sp rm j hFb (by rw [e86]; exact hj) (by rw [e86]; exact g9)) (by rw [hz9])⟩

theorem st_ruleSymbol (a b : Int32) (hI : Inv x m) : StepP l D cI cC cJ cG yX9_ruleSymbol wsX9_ruleSymbol yX10_ruleSymbol wsX10_ruleSymbol [.int a, .int b] x m := by
  obtain ⟨T, le, g, d, nw, ct, K, A, C, ro, sl, A2, C2, ro2, sl2, W, M⟩ := x
  obtain ⟨F, Q, ft, B, Bt, a1, a2, a3, a4, a5, fr, Wm, Mm, km, lm, sp, rm⟩ := m
  obtain ⟨hx, hg, hh, ⟨⟨hlm, hft⟩, hT2⟩, hc, hB, hb1, hb3, hfr⟩ := id hI
  obtain ⟨hT, hle, hgo, hdo, hnw, hct, hKk, hA, hC, hsl, hA2, hC2, hsl2⟩ := id hx
  obtain ⟨P, Y, o, t, n, Fc, q, S, hi⟩ := g
  dsimp only at hx hg hh hlm hft hT2 hc hB hb1 hb3 hfr hT hle hgo hdo hnw hct hKk hA hC hsl hA2 hC2 hsl2
  obtain ⟨g1, g2, g3, g4, g5, g6, g7, g8, g9⟩ := id hgo
  dsimp only at g1 g2 g3 g4 g5 g6 g7 g8 g9
  obtain ⟨⟨hP, hY, e0, e1, e2, e3, e4, hru⟩, ⟨e86, hsk⟩, e85, hq, hY1, htP, huv, hS4, hFb⟩ := id hg
  dsimp only at hP hY e0 e1 e2 e3 e4 hru e86 hsk e85 hq hY1 htP huv hS4 hFb
  obtain ⟨k0, hQb, hK9⟩ := id hh
  cases hv : inR a n with
  | false => exact ⟨(-1), _, Unit, fun _ => True, fun _ => (F, Q, ft, B, Bt, a1, a2, a3, a4, a5, fr, Wm, Mm, km, lm, sp, rm), 6, 3, by decide, by decide, fun _ _ => hI, fun H hk hr => c_X9_ruleSymbolE (l := l) (D := D) (cI := cI) (cC := cC) (cJ := cJ) (cG := cG) H hk hr T le (P, Y, o, t, n, Fc, q, S, hi) d nw ct K A C ro sl A2 C2 ro2 sl2 W M hx a b (Or.inl hv), fun h => c_X10_ruleSymbolE (l := l) (D := D) (cI := cI) (cC := cC) (cJ := cJ) (cG := cG) h F Q ft B Bt a1 a2 a3 a4 a5 fr Wm Mm km lm sp rm a b hFb (Or.inl (by rw [e4]; exact hv))⟩
  | true =>
    cases hw : inR b 2 with
    | false => exact ⟨(-1), _, Unit, fun _ => True, fun _ => (F, Q, ft, B, Bt, a1, a2, a3, a4, a5, fr, Wm, Mm, km, lm, sp, rm), 6, 3, by decide, by decide, fun _ _ => hI, fun H hk hr => c_X9_ruleSymbolE (l := l) (D := D) (cI := cI) (cC := cC) (cJ := cJ) (cG := cG) H hk hr T le (P, Y, o, t, n, Fc, q, S, hi) d nw ct K A C ro sl A2 C2 ro2 sl2 W M hx a b (Or.inr (in2 hw)), fun h => c_X10_ruleSymbolE (l := l) (D := D) (cI := cI) (cC := cC) (cJ := cJ) (cG := cG) h F Q ft B Bt a1 a2 a3 a4 a5 fr Wm Mm km lm sp rm a b hFb (Or.inr hw)⟩
    | true =>
      obtain ⟨j, hj, rfl⟩ := inR_ex (by omega) hv
      obtain ⟨b, hb, rfl⟩ := inR_ex (by decide) hw
      obtain ⟨r0, r1, r2, r3, r4, l0, l1, l2, l3, l4, l5⟩ := gR_ru hg hj
      rcases (show b = 0 ∨ b = 1 by omega) with hb0 | hb0
      · subst hb0
        exact ⟨(if Fc j / 64 % 4 = 0 then (-4) else nI (Fc j / 64 % 4) - nI 1), _, Unit, fun _ => True, fun _ => (F, Q, ft, B, Bt, a1, a2, a3, a4, a5, fr, Wm, Mm, km, lm, sp, rm), 6, 3, by decide, by decide, fun _ _ => hI, fun H hk hr => c_X9_ruleSymbol0 (l := l) (D := D) (cI := cI) (cC := cC) (cJ := cJ) (cG := cG) H hk hr T le (P, Y, o, t, n, Fc, q, S, hi) d nw ct K A C ro sl A2 C2 ro2 sl2 W M hx j hj, fun h => Ct_val (c_X10_ruleSymbol0 (l := l) (D := D) (cI := cI) (cC := cC) (cJ := cJ) (cG := cG) h F Q ft B Bt a1 a2 a3 a4 a5 fr Wm Mm km lm sp rm j hFb (by rw [e4]; exact hj) (by rw [e4]; exact g5)) (by rw [r3])⟩
      · subst hb0
        exact ⟨(if Fc j / 256 % 4 = 0 then (-4) else nI (Fc j / 256 % 4) - nI 1), _, Unit, fun _ => True, fun _ => (F, Q, ft, B, Bt, a1, a2, a3, a4, a5, fr, Wm, Mm, km, lm, sp, rm), 6, 3, by decide, by decide, fun _ _ => hI, fun H hk hr => c_X9_ruleSymbol1 (l := l) (D := D) (cI := cI) (cC := cC) (cJ := cJ) (cG := cG) H hk hr T le (P, Y, o, t, n, Fc, q, S, hi) d nw ct K A C ro sl A2 C2 ro2 sl2 W M hx j hj, fun h => Ct_val (c_X10_ruleSymbol1 (l := l) (D := D) (cI := cI) (cC := cC) (cJ := cJ) (cG := cG) h F Q ft B Bt a1 a2 a3 a4 a5 fr Wm Mm km lm sp rm j hFb (by rw [e4]; exact hj) (by rw [e4]; exact g5)) (by rw [r4])⟩

theorem st_clearText (hI : Inv x m) : StepP l D cI cC cJ cG yX9_clearText wsX9_clearText yX10_clearText wsX10_clearText [] x m := by
  obtain ⟨T, le, g, d, nw, ct, K, A, C, ro, sl, A2, C2, ro2, sl2, W, M⟩ := x
  obtain ⟨F, Q, ft, B, Bt, a1, a2, a3, a4, a5, fr, Wm, Mm, km, lm, sp, rm⟩ := m
  obtain ⟨hx, hg, hh, ⟨⟨hlm, hft⟩, hT2⟩, hc, hB, hb1, hb3, hfr⟩ := id hI
  obtain ⟨hT, hle, hgo, hdo, hnw, hct, hKk, hA, hC, hsl, hA2, hC2, hsl2⟩ := id hx
  obtain ⟨P, Y, o, t, n, Fc, q, S, hi⟩ := g
  dsimp only at hx hg hh hlm hft hT2 hc hB hb1 hb3 hfr hT hle hgo hdo hnw hct hKk hA hC hsl hA2 hC2 hsl2
  obtain ⟨g1, g2, g3, g4, g5, g6, g7, g8, g9⟩ := id hgo
  dsimp only at g1 g2 g3 g4 g5 g6 g7 g8 g9
  obtain ⟨⟨hP, hY, e0, e1, e2, e3, e4, hru⟩, ⟨e86, hsk⟩, e85, hq, hY1, htP, huv, hS4, hFb⟩ := id hg
  dsimp only at hP hY e0 e1 e2 e3 e4 hru e86 hsk e85 hq hY1 htP huv hS4 hFb
  obtain ⟨k0, hQb, hK9⟩ := id hh
  exact ⟨(nI le), (T, 0, (P, Y, o, t, n, Fc, q, S, hi), d, nw, ct, K, A, C, ro, sl, A2, C2, ro2, sl2, W, M), Unit, fun _ => True, fun _ => (F, Q, ft, B, Bt, a1, a2, a3, a4, a5, fr, Wm, Mm, km, 0, sp, rm), 1, 0, by decide, by decide, fun _ _ => ⟨⟨hT, Nat.zero_le _, hgo, hdo, hnw, hct, hKk, hA, hC, hsl, hA2, hC2, hsl2⟩, hg, hh, ⟨⟨rfl, hft⟩, fun i hi9 => absurd hi9 (Nat.not_lt_zero _)⟩, hc, hB, hb1, hb3, hfr⟩, fun H hk hr => c_X9_clearText (l := l) (D := D) (cI := cI) (cC := cC) (cJ := cJ) (cG := cG) H hk hr T le (P, Y, o, t, n, Fc, q, S, hi) d nw ct K A C ro sl A2 C2 ro2 sl2 W M hx , fun h => Ct_val (c_X10_clearText (l := l) (D := D) (cI := cI) (cC := cC) (cJ := cJ) (cG := cG) h F Q ft B Bt a1 a2 a3 a4 a5 fr Wm Mm km lm sp rm ) (by rw [hlm])⟩

theorem st_append (a : Int32) (hI : Inv x m) : StepP l D cI cC cJ cG yX9_append wsX9_append yX10_append wsX10_append [.int a] x m := by
  obtain ⟨T, le, g, d, nw, ct, K, A, C, ro, sl, A2, C2, ro2, sl2, W, M⟩ := x
  obtain ⟨F, Q, ft, B, Bt, a1, a2, a3, a4, a5, fr, Wm, Mm, km, lm, sp, rm⟩ := m
  obtain ⟨hx, hg, hh, ⟨⟨hlm, hft⟩, hT2⟩, hc, hB, hb1, hb3, hfr⟩ := id hI
  obtain ⟨hT, hle, hgo, hdo, hnw, hct, hKk, hA, hC, hsl, hA2, hC2, hsl2⟩ := id hx
  obtain ⟨P, Y, o, t, n, Fc, q, S, hi⟩ := g
  dsimp only at hx hg hh hlm hft hT2 hc hB hb1 hb3 hfr hT hle hgo hdo hnw hct hKk hA hC hsl hA2 hC2 hsl2
  obtain ⟨g1, g2, g3, g4, g5, g6, g7, g8, g9⟩ := id hgo
  dsimp only at g1 g2 g3 g4 g5 g6 g7 g8 g9
  obtain ⟨⟨hP, hY, e0, e1, e2, e3, e4, hru⟩, ⟨e86, hsk⟩, e85, hq, hY1, htP, huv, hS4, hFb⟩ := id hg
  dsimp only at hP hY e0 e1 e2 e3 e4 hru e86 hsk e85 hq hY1 htP huv hS4 hFb
  obtain ⟨k0, hQb, hK9⟩ := id hh
  subst hlm
  by_cases hl : lm < 200
  · refine ⟨(if okc a = true then nI (lm + 1) else (-1)), ((if okc a = true then updN T lm a.toNatClampNeg else T), (if okc a = true then lm + 1 else lm), (P, Y, o, t, n, Fc, q, S, hi), d, nw, ct, K, A, C, ro, sl, A2, C2, ro2, sl2, W, M), Unit, fun _ => True, fun _ => (F, Q, (if okc a = true then updN ft lm a.toNatClampNeg else ft), B, Bt, a1, a2, a3, a4, a5, fr, Wm, Mm, km, (if okc a = true then lm + 1 else lm), sp, rm), 1, 1, by decide, by decide, fun _ _ => ?_, fun H hk hr => c_X9_append (l := l) (D := D) (cI := cI) (cC := cC) (cJ := cJ) (cG := cG) H hk hr T lm (P, Y, o, t, n, Fc, q, S, hi) d nw ct K A C ro sl A2 C2 ro2 sl2 W M hx a hl, fun h => c_X10_append (l := l) (D := D) (cI := cI) (cC := cC) (cJ := cJ) (cG := cG) h F Q ft B Bt a1 a2 a3 a4 a5 fr Wm Mm km lm sp rm a hl⟩
    cases ho : okc a with
    | false => exact hI
    | true =>
      obtain ⟨c, c1, c2, rfl⟩ := okc_c ho
      rw [nI_clamp (by omega)]
      exact ⟨⟨fun i => upd_lt hT (by omega) i, show lm + 1 ≤ 200 by omega, hgo, hdo, hnw, hct, hKk, hA, hC, hsl, hA2, hC2, hsl2⟩, hg, hh, ⟨⟨rfl, fun i => upd_lt hft (by omega) i⟩, fun i hi9 => by
        have hi8 : i < lm + 1 := hi9
        show updN T lm c i = updN ft lm c i
        unfold updN
        split
        · rfl
        · exact hT2 i (by omega)⟩, hc, hB, hb1, hb3, hfr⟩
  · exact ⟨(if okc a = true then (-3) else (-1)), _, Unit, fun _ => True, fun _ => (F, Q, ft, B, Bt, a1, a2, a3, a4, a5, fr, Wm, Mm, km, lm, sp, rm), 1, 1, by decide, by decide, fun _ _ => hI, fun H hk hr => c_X9_appendF (l := l) (D := D) (cI := cI) (cC := cC) (cJ := cJ) (cG := cG) H hk hr T lm (P, Y, o, t, n, Fc, q, S, hi) d nw ct K A C ro sl A2 C2 ro2 sl2 W M hx a (by omega), fun h => c_X10_appendF (l := l) (D := D) (cI := cI) (cC := cC) (cJ := cJ) (cG := cG) h F Q ft B Bt a1 a2 a3 a4 a5 fr Wm Mm km lm sp rm a (by omega)⟩

theorem st_addRule (x0 x1 x2 x3 x4 : Int32) (hI : Inv x m) : StepP l D cI cC cJ cG yX9_addRule wsX9_addRule yX10_addRule wsX10_addRule [.int x0, .int x1, .int x2, .int x3, .int x4] x m := by
  obtain ⟨T, le, g, d, nw, ct, K, A, C, ro, sl, A2, C2, ro2, sl2, W, M⟩ := x
  obtain ⟨F, Q, ft, B, Bt, a1, a2, a3, a4, a5, fr, Wm, Mm, km, lm, sp, rm⟩ := m
  obtain ⟨hx, hg, hh, ⟨⟨hlm, hft⟩, hT2⟩, hc, hB, hb1, hb3, hfr⟩ := id hI
  obtain ⟨hT, hle, hgo, hdo, hnw, hct, hKk, hA, hC, hsl, hA2, hC2, hsl2⟩ := id hx
  obtain ⟨P, Y, o, t, n, Fc, q, S, hi⟩ := g
  dsimp only at hx hg hh hlm hft hT2 hc hB hb1 hb3 hfr hT hle hgo hdo hnw hct hKk hA hC hsl hA2 hC2 hsl2
  obtain ⟨g1, g2, g3, g4, g5, g6, g7, g8, g9⟩ := id hgo
  dsimp only at g1 g2 g3 g4 g5 g6 g7 g8 g9
  obtain ⟨⟨hP, hY, e0, e1, e2, e3, e4, hru⟩, ⟨e86, hsk⟩, e85, hq, hY1, htP, huv, hS4, hFb⟩ := id hg
  dsimp only at hP hY e0 e1 e2 e3 e4 hru e86 hsk e85 hq hY1 htP huv hS4 hFb
  obtain ⟨k0, hQb, hK9⟩ := id hh
  cases hv : (inR x0 P && inR x1 Y && inR x2 P && isW x3 x4 Y) with
  | false =>
    have hre : rErr Fc n P Y x0 x1 x2 x3 x4 = (-1) := by
      unfold rErr
      rw [if_neg (by rw [hv]; decide)]
    exact ⟨(-1), _, Unit, fun _ => True, fun _ => (F, Q, ft, B, Bt, a1, a2, a3, a4, a5, fr, Wm, Mm, km, lm, sp, rm), 6, 3, by decide, by decide, fun _ _ => hI, fun H hk hr => Ct_val (c_X9_addRuleE (l := l) (D := D) (cI := cI) (cC := cC) (cJ := cJ) (cG := cG) H hk hr T le (P, Y, o, t, n, Fc, q, S, hi) d nw ct K A C ro sl A2 C2 ro2 sl2 W M hx x0 x1 x2 x3 x4 (by dsimp only; rw [hre]; decide)) (by rw [hre]), fun h => c_X10_addRuleE (l := l) (D := D) (cI := cI) (cC := cC) (cJ := cJ) (cG := cG) h F Q ft B Bt a1 a2 a3 a4 a5 fr Wm Mm km lm sp rm x0 x1 x2 x3 x4 hFb (by rw [e0]; exact g1) (by rw [e1]; exact g2) (by rw [e4]; exact g5) (by unfold aErr; rw [e0, e1]; exact hv)⟩
  | true =>
    have hv' := hv
    simp only [Bool.and_eq_true] at hv'
    obtain ⟨⟨⟨v0, v1⟩, v2⟩, v3⟩ := hv'
    obtain ⟨a, ha, rfl⟩ := inR_ex (by omega) v0
    obtain ⟨b, hb, rfl⟩ := inR_ex (by omega) v1
    obtain ⟨c, hc9, rfl⟩ := inR_ex (by omega) v2
    obtain ⟨u, v, rfl, rfl, hu, hv9, huv9⟩ := isW_ex g2 v3
    have hrc := hrC_eq (b := b) hg (show a < 4 by omega) n (Nat.le_refl _)
    by_cases hfull : n < 16 ∧ rcnt Fc (a + 4 * b) n < 3
    · exact ⟨(nI n), (T, le, (P, Y, o, t, n + 1, updN Fc n (rcode a b c u v), q, S, hi), d, (nw + 1) % 6, min (ct + 1) 6, kpG K ((nw + 1) % 6) (P, Y, o, t, n, Fc, q, S, hi), A, C, ro, 1, A2, C2, ro2, sl2, W, M), Unit, fun _ => True, fun _ => (ruF F a b c u v, kpQ km Q F, ft, B, Bt, a1, a2, a3, a4, a5, fr, Wm, Mm, min (km + 1) 6, lm, sp, rm), 6, 3, by decide, by decide, fun _ _ => inv_chg hI (rel_add hg hfull.1 ha hb hc9 hu hv9 huv9) ⟨g1, g2, g3, g4, by dsimp only; omega, fun i => upd_lt g6 (rcode_lt (by omega) (by omega) (by omega) (by omega) (by omega)) i, g7, g8, g9⟩, fun H hk hr => c_X9_addRule (l := l) (D := D) (cI := cI) (cC := cC) (cJ := cJ) (cG := cG) H hk hr T le (P, Y, o, t, n, Fc, q, S, hi) d nw ct K A C ro sl A2 C2 ro2 sl2 W M hx a b c u v ha hb hc9 hu hv9 huv9 hfull.1 hfull.2, fun h => Ct_val (c_X10_addRule (l := l) (D := D) (cI := cI) (cC := cC) (cJ := cJ) (cG := cG) h F Q ft B Bt a1 a2 a3 a4 a5 fr Wm Mm km lm sp rm hFb (by rw [e0]; exact g1) (by rw [e1]; exact g2) (by rw [e4]; exact g5) a b c u v (by rw [e0]; exact ha) (by rw [e1]; exact hb) (by rw [e0]; exact hc9) (by rw [e1]; exact hu) (by rw [e1]; exact hv9) huv9 (by rw [k0]; exact hct) (by rw [e4, hrc]; exact ⟨hfull.2, hfull.1⟩)) (by rw [e4])⟩
    · have hre : rErr Fc n P Y (nI a) (nI b) (nI c) (nI u - nI 1) (nI v - nI 1) = (-3) := by
        unfold rErr
        rw [if_pos hv, nI_clamp (by omega), nI_clamp (by omega), if_pos (by omega)]
      exact ⟨(-3), _, Unit, fun _ => True, fun _ => (F, Q, ft, B, Bt, a1, a2, a3, a4, a5, fr, Wm, Mm, km, lm, sp, rm), 6, 3, by decide, by decide, fun _ _ => hI, fun H hk hr => Ct_val (c_X9_addRuleE (l := l) (D := D) (cI := cI) (cC := cC) (cJ := cJ) (cG := cG) H hk hr T le (P, Y, o, t, n, Fc, q, S, hi) d nw ct K A C ro sl A2 C2 ro2 sl2 W M hx (nI a) (nI b) (nI c) (nI u - nI 1) (nI v - nI 1) (by dsimp only; rw [hre]; decide)) (by rw [hre]), fun h => c_X10_addRuleF (l := l) (D := D) (cI := cI) (cC := cC) (cJ := cJ) (cG := cG) h F Q ft B Bt a1 a2 a3 a4 a5 fr Wm Mm km lm sp rm hFb (by rw [e0]; exact g1) (by rw [e1]; exact g2) (by rw [e4]; exact g5) a b c u v (by rw [e0]; exact ha) (by rw [e1]; exact hb) (by rw [e0]; exact hc9) (by rw [e1]; exact hu) (by rw [e1]; exact hv9) huv9 (by rw [e4, hrc]; omega)⟩
end Steps2
