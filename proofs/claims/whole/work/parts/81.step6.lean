section Steps6
theorem fix_of {P Y o t n : Nat} {A Fc : Nat → Nat} (hP : P ≤ 4) (hY : Y ≤ 3) (h : chg o t n P A Fc Y 0 = false) : fixd P Y o t n A Fc := by
  intro p hp y hy
  refine Classical.byContradiction (fun hne => ?_)
  have h1 : chg o t n P A Fc Y 0 = true := chg_iff.mpr ⟨p + 4 * y, by omega, by omega, by rw [show (p + 4 * y) % 4 = p by omega]; exact hne⟩
  rw [h1] at h
  exact absurd h (by decide)
theorem stG_eq {P Y o t n lim p S h q S0 h0 : Nat} {A Fc F : Nat → Nat} (hR : gR (P, Y, o, t, n, Fc, q, S0, h0) F) (ht : t < 16) (hf : chg o t n P A Fc Y 0 = false) (hp : p < P) (hl : lim ≤ 900) : stG o t n P Fc A lim p S h = rsD (dC o t n Fc 7 p S h) lim := by
  have hm := mv_dC (o := o) (t := t) (n := n) (Fc := Fc) 7 lim p S h (by decide) hl
  unfold stG
  by_cases hb : bt (acD t P A S h h) p = 1
  · rw [if_pos hb, hm]
  · rw [if_neg hb]
    cases hr : rsD (dC o t n Fc 7 p S h) lim with
    | none => rfl
    | some m =>
      rw [hr] at hm
      exact absurd (tb_1.mpr (mv_acc hR.1.1 ht hR.2.2.2.2.2.1 (fix_of hR.1.1 hR.1.2.1 hf) hR.1.2.2.2.2.2.2.2 hR.2.2.2.2.2.2.1 7 lim p S h m hp hm)) hb
theorem lpP_d {a3 F : Nat → Nat} {S h : Nat} (hs : ∀ k, k < h → F (87 + k) = S / 4 ^ (h - 1 - k) % 4) : dgs (lpP a3 F h) 0 S h := by
  intro k hk
  unfold lpP
  rw [if_pos (by omega), show 87 + (22 * 0 + k) = 87 + k by omega]
  exact hs k hk
theorem lpP_b {a3 F : Nat → Nat} {h : Nat} (ha : ∀ i, a3 i < 65536) (hF : ∀ i, F i < 65536) : ∀ i, lpP a3 F h i < 65536 := by
  intro i
  unfold lpP
  split
  · exact hF _
  · exact ha _
theorem br_bm {M : Nat → Nat → Nat → Nat → Option Nat} {C : Nat → Nat → Nat → Nat} {pl : Nat → Bool} {Fc : Nat → Nat} {n q S h : Nat} (hpl : ∀ i, i < n → pl i = decide (0 < h ∧ Fc i % 16 = q + 4 * (S % 4))) (hM : ∀ i, i < n → ∀ l, l ≤ 8 → M l (Fc i / 16 % 4) (sAft S (Fc i)) (hAft h (Fc i)) = rsD (C (Fc i / 16 % 4) (sAft S (Fc i)) (hAft h (Fc i))) l) (hC : ∀ p S h, 1 ≤ C p S h ∧ (C p S h ≤ 8 ∨ C p S h = 1001)) : ∀ j b l1 ls, j ≤ n → bmL pl (fun i => C (Fc i / 16 % 4) (sAft S (Fc i)) (hAft h (Fc i)) - 1) (n - j) = (b, ls) → ((b = none ∧ l1 = 8 ∧ ls = 1000) ∨ (b ≠ none ∧ l1 = ls ∧ ls ≤ 7)) →
    brL M Fc n q S h j b l1 = (bmL pl (fun i => C (Fc i / 16 % 4) (sAft S (Fc i)) (hAft h (Fc i)) - 1) n).1
  | 0, b, l1, ls, hj, hb, hi => by
    rw [Nat.sub_zero] at hb
    rw [hb]
    rfl
  | j + 1, b, l1, ls, hj, hb, hi => by
    have hs : n - j = n - (j + 1) + 1 := by omega
    by_cases hl : l1 = 0
    · subst hl
      rw [brL_z]
      have hst : ∀ i, n - (j + 1) ≤ i → bmL pl (fun i => C (Fc i / 16 % 4) (sAft S (Fc i)) (hAft h (Fc i)) - 1) i = (b, ls) := by
        intro i hi9
        induction i with
        | zero => rw [show (0 : Nat) = n - (j + 1) by omega]; exact hb
        | succ i ih =>
          rcases Nat.eq_or_lt_of_le hi9 with h9 | h9
          · rw [← h9]; exact hb
          · unfold bmL
            rw [ih (by omega)]
            split
            · rw [if_neg (by omega)]
            · rfl
      rw [hst n (by omega)]
    · have hstep : bmL pl (fun i => C (Fc i / 16 % 4) (sAft S (Fc i)) (hAft h (Fc i)) - 1) (n - j) = if pl (n - (j + 1)) = true then (if C (Fc (n - (j + 1)) / 16 % 4) (sAft S (Fc (n - (j + 1)))) (hAft h (Fc (n - (j + 1)))) - 1 < ls then (some (n - (j + 1)), C (Fc (n - (j + 1)) / 16 % 4) (sAft S (Fc (n - (j + 1)))) (hAft h (Fc (n - (j + 1)))) - 1) else (b, ls)) else (b, ls) := by
        rw [hs]
        conv => lhs; unfold bmL
        rw [hb]
      have hc := hC (Fc (n - (j + 1)) / 16 % 4) (sAft S (Fc (n - (j + 1)))) (hAft h (Fc (n - (j + 1))))
      rw [hpl (n - (j + 1)) (by omega)] at hstep
      unfold brL
      rw [if_neg hl]
      by_cases hp : 0 < h ∧ Fc (n - (j + 1)) % 16 = q + 4 * (S % 4)
      · rw [decide_eq_true hp, if_pos rfl] at hstep
        rw [if_pos hp, hM (n - (j + 1)) (by omega) (l1 - 1) (by omega)]
        generalize C (Fc (n - (j + 1)) / 16 % 4) (sAft S (Fc (n - (j + 1)))) (hAft h (Fc (n - (j + 1)))) = c at hc hstep ⊢
        by_cases hq : c ≤ l1 - 1 + 1
        · rw [rsD_s hq]
          rw [if_pos (by omega)] at hstep
          exact br_bm hpl hM hC j _ _ _ (by omega) hstep (Or.inr ⟨by simp, rfl, by omega⟩)
        · rw [rsD_n hq]
          rw [if_neg (by omega)] at hstep
          exact br_bm hpl hM hC j _ _ _ (by omega) hstep hi
      · rw [decide_eq_false hp, if_neg (by decide)] at hstep
        rw [if_neg hp]
        exact br_bm hpl hM hC j _ _ _ (by omega) hstep hi
theorem inv_dist {T : Nat → Nat} {le : Nat} {d : GT} {P Y o t n q S hi : Nat} {Fc : Nat → Nat} {nw ct : Nat} {K : Nat → GT} {A C : Nat → Nat} {ro sl : Nat} {A2 C2 : Nat → Nat} {ro2 sl2 : Nat} {W M : Nat → Int64} {F Q ft B Bt a1 a2 a3 a4 a5 : Nat → Nat} {fr : Nat → Int32} {Wm Mm : Nat → Int64} {km lm sp rm : Nat} (z : DT)
    (hI : Inv (T, le, (P, Y, o, t, n, Fc, q, S, hi), d, nw, ct, K, A, C, ro, sl, A2, C2, ro2, sl2, W, M) (F, Q, ft, B, Bt, a1, a2, a3, a4, a5, fr, Wm, Mm, km, lm, sp, rm)) (h1 : ∀ i, z.1 i < 65536) (h3 : ∀ i, z.2.2.1 i < 65536) : Inv (T, le, (P, Y, o, t, n, Fc, q, S, hi), d, nw, ct, K, (satR sl o t n P Y Fc A C ro).1, (satR sl o t n P Y Fc A C ro).2.1, (satR sl o t n P Y Fc A C ro).2.2, 0, A2, C2, ro2, sl2, W, M) (F, Q, ft, B, Bt, z.1, z.2.1, z.2.2.1, z.2.2.2.1, z.2.2.2.2, fr, Wm, Mm, km, lm, sp, rm) := by
  obtain ⟨hx, hg, hh, ht, hc, hB, hb1, hb3, hfr⟩ := id hI
  obtain ⟨hT, hle, hgo, hdo, hnw, hct, hKk, hA, hC, hsl, hA2, hC2, hsl2⟩ := id hx
  dsimp only at hx hg hh ht hc hB hb1 hb3 hfr hT hle hgo hdo hnw hct hKk hA hC hsl hA2 hC2 hsl2
  have hlt := satR_lt (sl := sl) (o := o) (t := t) (n := n) (P := P) (Y := Y) (F := Fc) (ro := ro) hA hC
  exact ⟨⟨hT, hle, hgo, hdo, hnw, hct, hKk, hlt.1, hlt.2, Nat.le_of_ble_eq_true rfl, hA2, hC2, hsl2⟩, hg, hh, ht, fun _ => satC hg.1 hA hC hsl hc, hB, h1, h3, hfr⟩
variable {l : Launch} {D : va_G} {cI cC cJ cG : ClassId} {x : XSt} {m : MSt}
theorem st_distance (hI : Inv x m) : StepP l D cI cC cJ cG yX9_distance wsX9_distance yX10_distance wsX10_distance [] x m := by
  obtain ⟨T, le, g, d, nw, ct, K, A, C, ro, sl, A2, C2, ro2, sl2, W, M⟩ := x
  obtain ⟨F, Q, ft, B, Bt, a1, a2, a3, a4, a5, fr, Wm, Mm, km, lm, sp, rm⟩ := m
  obtain ⟨hx, hg, hh, ⟨⟨hlm, hft⟩, hT2⟩, hc, hB, hb1, hb3, hfr⟩ := id hI
  obtain ⟨hT, hle, hgo, hdo, hnw, hct, hKk, hA, hC, hsl, hA2, hC2, hsl2⟩ := id hx
  obtain ⟨P, Y, o, t, n, Fc, q, S, hi⟩ := g
  dsimp only at hx hg hh hlm hft hT2 hc hB hb1 hb3 hfr hT hle hgo hdo hnw hct hKk hA hC hsl hA2 hC2 hsl2
  obtain ⟨g1, g2, g3, g4, g5, g6, g7, g8, g9⟩ := id hgo
  dsimp only at g1 g2 g3 g4 g5 g6 g7 g8 g9
  obtain ⟨⟨hP, hY, e0, e1, e2, e3, e4, hru⟩, ⟨e86, hsk⟩, e85, hq, hY1, htP, huv, hS4, hFb⟩ := id hg
  dsimp only at hP hY e0 e1 e2 e3 e4 hru e86 hsk e85 hq hY1 htP huv hS4 hFb
  obtain ⟨k0, hQb, hK9⟩ := id hh
  obtain ⟨N, hN9, hE, hro, hfam, hfix⟩ := sat_pack (C := C) (B := B) hg.1 hA hC hsl hc hB
  have hmru := gmR_ru hg.1
  have hgb := gB_lt hmru (bgM_lt (F := F) (k := 12) hB)
  have hsy : ∀ k, k < F 86 → F (87 + k) < 3 := fun k hk => by
    have h9 := (hsk k (by omega)).2
    omega
  have hsd : ∀ k, k < hi → F (87 + k) = S / 4 ^ (hi - 1 - k) % 4 := fun k hk => (hsk k hk).1
  obtain ⟨b, kb, bb, b0, cb⟩ := run_all (fi := 0) (mv := 7) hg g1 g5 (by decide) 7 0 q S hi (updN a1 0 (F 85), updN a2 0 (F 86), lpP a3 F (F 86), updN a4 0 0, updN a5 0 0) rfl (Nat.le_refl _) g7 (by omega) ((updN_s a1 0 (F 85)).trans e85) ((updN_s a2 0 (F 86)).trans e86) (by show dgs (lpP a3 F (F 86)) 0 S hi; rw [e86]; exact lpP_d hsd) ⟨fun i => upd_lt hb1 (hFb 85) i, lpP_b hb3 hFb⟩ (updN_s a4 0 0) (updN_s a5 0 0)
  have hcd := dC_ok (o := o) (t := t) (n := n) (Fc := Fc) 7 (by decide) q S hi
  obtain ⟨n2, hn2⟩ := cb 0 (dC o t n Fc 7 q S hi, b) ⟨rfl, hcd.1, rfl⟩
  have hst := stG_eq (lim := 7) (S := S) (h := hi) hg g4 hfix hq (by decide)
  have hv9 : (if dC o t n Fc 7 q S hi = 1001 then (-4) else nI (dC o t n Fc 7 q S hi - 1)) = oI (stG o t n P Fc (satR sl o t n P Y Fc A C ro).1 7 q S hi) := by
    rw [hst]
    rcases hcd.2 with h9 | h9
    · rw [if_neg (by omega), rsD_s h9]
      rfl
    · rw [if_pos h9, rsD_n (by omega)]
      rfl
  exact ⟨(oI (stG o t n P Fc (satR sl o t n P Y Fc A C ro).1 7 q S hi)), (T, le, (P, Y, o, t, n, Fc, q, S, hi), d, nw, ct, K, (satR sl o t n P Y Fc A C ro).1, (satR sl o t n P Y Fc A C ro).2.1, (satR sl o t n P Y Fc A C ro).2.2, 0, A2, C2, ro2, sl2, W, M), Unit, fun _ => True, fun _ => (F, Q, ft, B, Bt, b.1, b.2.1, b.2.2.1, b.2.2.2.1, b.2.2.2.2, fr, Wm, Mm, km, lm, sp, rm), 26, 3, by decide, by decide, fun _ _ => inv_dist b hI bb.1 bb.2, fun H hk hr => c_X9_distance (l := l) (D := D) (cI := cI) (cC := cC) (cJ := cJ) (cG := cG) H hk hr T le (P, Y, o, t, n, Fc, q, S, hi) d nw ct K A C ro sl A2 C2 ro2 sl2 W M hx , fun h => Ct_val (c_X10_distance (l := l) (D := D) (cI := cI) (cC := cC) (cJ := cJ) (cG := cG) h F Q ft B Bt a1 a2 a3 a4 a5 fr Wm Mm km lm sp rm n2 (dC o t n Fc 7 q S hi, b) hFb (by rw [e4]; exact g5) (by rw [e86]; exact g9) hn2 hcd.1 (by show dC o t n Fc 7 q S hi ≤ 1001; omega)) (by rw [← hv9])⟩

theorem st_bestRule (hI : Inv x m) : StepP l D cI cC cJ cG yX9_bestRule wsX9_bestRule yX10_bestRule wsX10_bestRule [] x m := by
  obtain ⟨T, le, g, d, nw, ct, K, A, C, ro, sl, A2, C2, ro2, sl2, W, M⟩ := x
  obtain ⟨F, Q, ft, B, Bt, a1, a2, a3, a4, a5, fr, Wm, Mm, km, lm, sp, rm⟩ := m
  obtain ⟨hx, hg, hh, ⟨⟨hlm, hft⟩, hT2⟩, hc, hB, hb1, hb3, hfr⟩ := id hI
  obtain ⟨hT, hle, hgo, hdo, hnw, hct, hKk, hA, hC, hsl, hA2, hC2, hsl2⟩ := id hx
  obtain ⟨P, Y, o, t, n, Fc, q, S, hi⟩ := g
  dsimp only at hx hg hh hlm hft hT2 hc hB hb1 hb3 hfr hT hle hgo hdo hnw hct hKk hA hC hsl hA2 hC2 hsl2
  obtain ⟨g1, g2, g3, g4, g5, g6, g7, g8, g9⟩ := id hgo
  dsimp only at g1 g2 g3 g4 g5 g6 g7 g8 g9
  obtain ⟨⟨hP, hY, e0, e1, e2, e3, e4, hru⟩, ⟨e86, hsk⟩, e85, hq, hY1, htP, huv, hS4, hFb⟩ := id hg
  dsimp only at hP hY e0 e1 e2 e3 e4 hru e86 hsk e85 hq hY1 htP huv hS4 hFb
  obtain ⟨k0, hQb, hK9⟩ := id hh
  obtain ⟨N, hN9, hE, hro, hfam, hfix⟩ := sat_pack (C := C) (B := B) hg.1 hA hC hsl hc hB
  have hmru := gmR_ru hg.1
  have hgb := gB_lt hmru (bgM_lt (F := F) (k := 12) hB)
  have hsy : ∀ k, k < F 86 → F (87 + k) < 3 := fun k hk => by
    have h9 := (hsk k (by omega)).2
    omega
  have hsd : ∀ k, k < hi → F (87 + k) = S / 4 ^ (hi - 1 - k) % 4 := fun k hk => (hsk k hk).1
  by_cases hop : bt o q = 1
  · exact ⟨(-2), _, Unit, fun _ => True, fun _ => (F, Q, ft, B, Bt, a1, a2, a3, a4, a5, fr, Wm, Mm, km, lm, sp, rm), 6, 4, by decide, by decide, fun _ _ => hI, fun H hk hr => c_X9_bestRuleO (l := l) (D := D) (cI := cI) (cC := cC) (cJ := cJ) (cG := cG) H hk hr T le (P, Y, o, t, n, Fc, q, S, hi) d nw ct K A C ro sl A2 C2 ro2 sl2 W M hx hop, fun h => c_X10_bestRuleN (l := l) (D := D) (cI := cI) (cC := cC) (cJ := cJ) (cG := cG) h F Q ft B Bt a1 a2 a3 a4 a5 fr Wm Mm km lm sp rm hFb (by rw [e85]; exact g7) (by rw [e2, e85]; exact hop)⟩
  · have hdr : ∀ r, r < F 4 → plB F r = true → ∀ a1 a2 a3 a4 a5 : Nat → Nat, (∀ i, a1 i < 65536) → (∀ i, a3 i < 65536) → ∃ nn o9, dRun F 1 7 nn 1 0 (updN (updN a1 0 (F 85)) 1 (F (5 + 5 * r + 2))) (updN (updN a2 0 (F 86)) 1 (goH F (updN a2 0 (F 86)) 0 r)) (goP F (updN a2 0 (F 86)) (lpP a3 F (F 86)) 0 r) (updN (updN a4 0 0) 1 0) (updN (updN a5 0 0) 1 0) o9 ∧ o9.1 = (fun i => dC o t n Fc 7 (Fc i / 16 % 4) (sAft S (Fc i)) (hAft hi (Fc i)) - 1) r + 1 ∧ (fun i => dC o t n Fc 7 (Fc i / 16 % 4) (sAft S (Fc i)) (hAft hi (Fc i)) - 1) r ≤ 1000 ∧ (∀ i, o9.2.1 i < 65536) ∧ (∀ i, o9.2.2.2.1 i < 65536) := by
      intro r hr hp a1 a2 a3 a4 a5 z1 z3
      rw [e4] at hr
      rw [plB_eq hg hr, decide_eq_true_eq] at hp
      obtain ⟨u0, u1, u2, u3, u4, l0, l1, l2, l3, l4, l5⟩ := gR_ru hg hr
      have hcd := dC_ok (o := o) (t := t) (n := n) (Fc := Fc) 7 (by decide) (Fc r / 16 % 4) (sAft S (Fc r)) (hAft hi (Fc r))
      have hAf : hAft hi (Fc r) ≤ hi + 1 := by
        unfold hAft
        (repeat' split) <;> omega
      obtain ⟨c1, c2, c3, c4⟩ := go_cfg (v := 0) (S := S) (h := hi) (a2 := updN a2 0 (F 86)) (a3 := lpP a3 F (F 86)) hg hr (by rw [e86]; exact lpP_d hsd) (by rw [updN_s, e86]) (by omega) (lpP_b z3 hFb)
      obtain ⟨b, kb, bb, b0, cb⟩ := run_all (fi := 1) (mv := 7) hg g1 g5 (by decide) 7 1 (Fc r / 16 % 4) (sAft S (Fc r)) (hAft hi (Fc r)) (updN (updN a1 0 (F 85)) 1 (F (5 + 5 * r + 2)), updN (updN a2 0 (F 86)) 1 (goH F (updN a2 0 (F 86)) 0 r), goP F (updN a2 0 (F 86)) (lpP a3 F (F 86)) 0 r, updN (updN a4 0 0) 1 0, updN (updN a5 0 0) 1 0) rfl (Nat.le_refl _) (by omega) (by omega) ((updN_s (updN a1 0 (F 85)) 1 (F (5 + 5 * r + 2))).trans u2) ((updN_s (updN a2 0 (F 86)) 1 (goH F (updN a2 0 (F 86)) 0 r)).trans c2) c1 ⟨fun i => upd_lt (fun i => upd_lt z1 (hFb 85) i) (hFb _) i, c4⟩ (updN_s (updN a4 0 0) 1 0) (updN_s (updN a5 0 0) 1 0)
      obtain ⟨n2, hn2⟩ := cb 0 (dC o t n Fc 7 (Fc r / 16 % 4) (sAft S (Fc r)) (hAft hi (Fc r)), b) ⟨rfl, hcd.1, rfl⟩
      exact ⟨n2, (dC o t n Fc 7 (Fc r / 16 % 4) (sAft S (Fc r)) (hAft hi (Fc r)), b), hn2, by dsimp only; omega, by dsimp only; omega, bb.1, bb.2⟩
    have hbr := br_bm (M := stG o t n P Fc (satR sl o t n P Y Fc A C ro).1) (C := dC o t n Fc 7) (pl := plB F) (Fc := Fc) (n := n) (q := q) (S := S) (h := hi) (fun i hi9 => plB_eq hg hi9) (fun i hi9 l hl => stG_eq hg g4 hfix (gR_ru hg hi9).2.2.2.2.2.2.2.1 (by omega)) (fun p S h => dC_ok 7 (by decide) p S h) n none 8 1000 (Nat.le_refl _) (by rw [Nat.sub_self]; rfl) (Or.inl ⟨rfl, rfl, rfl⟩)
    exact ⟨oI (brL (stG o t n P Fc (satR sl o t n P Y Fc A C ro).1) Fc n q S hi n none 8), (T, le, (P, Y, o, t, n, Fc, q, S, hi), d, nw, ct, K, (satR sl o t n P Y Fc A C ro).1, (satR sl o t n P Y Fc A C ro).2.1, (satR sl o t n P Y Fc A C ro).2.2, 0, A2, C2, ro2, sl2, W, M), DT, fun u => (∀ i, u.1 i < 65536) ∧ (∀ i, u.2.2.1 i < 65536), fun u => (F, Q, ft, B, Bt, u.1, u.2.1, u.2.2.1, u.2.2.2.1, u.2.2.2.2, fr, Wm, Mm, km, lm, sp, rm), 26, 4, by decide, by decide, fun u hu => inv_dist u hI hu.1 hu.2, fun H hk hr => c_X9_bestRule (l := l) (D := D) (cI := cI) (cC := cC) (cJ := cJ) (cG := cG) H hk hr T le (P, Y, o, t, n, Fc, q, S, hi) d nw ct K A C ro sl A2 C2 ro2 sl2 W M hx hop, fun h => Ct_val (c_X10_bestRule (l := l) (D := D) (cI := cI) (cC := cC) (cJ := cJ) (cG := cG) h F Q ft B Bt a1 a2 a3 a4 a5 fr Wm Mm km lm sp rm hFb (by rw [e4]; exact g5) (by rw [e86]; exact g9) (by rw [e85]; exact g7) (by rw [e2, e85]; exact hop) (fun i => dC o t n Fc 7 (Fc i / 16 % 4) (sAft S (Fc i)) (hAft hi (Fc i)) - 1) hdr hb1 hb3) (by rw [e4, hbr])⟩
end Steps6
