section Rel8
def dgs (a3 : Nat → Nat) (w S h : Nat) : Prop := ∀ k, k < h → a3 (22 * w + k) = S / 4 ^ (h - 1 - k) % 4
theorem dgs_push {a3 : Nat → Nat} {w S h j : Nat} (hd : dgs a3 w S h) (hj : j < 4) : dgs (updN a3 (22 * w + h) j) w (4 * S + j) (h + 1) := by
  intro k hk
  by_cases hkh : k = h
  · subst hkh
    rw [updN_s, show k + 1 - 1 - k = 0 by omega, Nat.pow_zero, Nat.div_one]
    omega
  · rw [updN_n _ _ _ (by omega), dig_push hj (by omega)]
    exact hd k (by omega)
theorem dgs_pop {a3 : Nat → Nat} {v S h : Nat} (hd : dgs a3 v S h) (h1 : 1 ≤ h) : dgs (cpP a3 v (h - 1)) (v + 1) (S / 4) (h - 1) := by
  intro k hk
  unfold cpP
  rw [if_pos (by omega), show 22 * (v + 1) + k - 22 = 22 * v + k by omega, hd k (by omega), Nat.div_div_eq_div_mul, Nat.mul_comm, ← Nat.pow_succ, show (h - 1 - 1 - k).succ = h - 1 - k by omega]
theorem cpP_lo {a3 : Nat → Nat} {v k i : Nat} (hi : i < 22 * (v + 1)) : cpP a3 v k i = a3 i := by
  unfold cpP
  rw [if_neg (by omega)]
theorem cpP_b {a3 : Nat → Nat} {v k : Nat} (hb : ∀ i, a3 i < 65536) : ∀ i, cpP a3 v k i < 65536 := by
  intro i
  unfold cpP
  split <;> exact hb _
theorem go_cfg {P Y o t n q S0 h0 r v S h : Nat} {Fc F a2 a3 : Nat → Nat} (hR : gR (P, Y, o, t, n, Fc, q, S0, h0) F) (hr : r < n) (hd : dgs a3 v S h) (ha : a2 v = h) (h1 : 1 ≤ h) (hb : ∀ i, a3 i < 65536) :
    dgs (goP F a2 a3 v r) (v + 1) (sAft S (Fc r)) (hAft h (Fc r)) ∧ goH F a2 v r = hAft h (Fc r) ∧ (∀ i, i < 22 * (v + 1) → goP F a2 a3 v r i = a3 i) ∧ ∀ i, goP F a2 a3 v r i < 65536 := by
  obtain ⟨r0, r1, r2, r3, r4, l0, l1, l2, l3, l4, l5⟩ := gR_ru hR hr
  have hY : Y ≤ 3 := hR.1.2.1
  have hp := dgs_pop hd h1
  have hcb := cpP_b (v := v) (k := h - 1) hb
  unfold goP goH sAft hAft
  rw [r3, r4, ha]
  by_cases hv : Fc r / 256 % 4 = 0
  · rw [if_pos hv, if_pos hv, if_pos hv]
    by_cases hu : Fc r / 64 % 4 = 0
    · rw [if_pos hu, if_pos hu, if_pos hu]
      exact ⟨hp, by omega, fun i hi => cpP_lo hi, hcb⟩
    · rw [if_neg hu, if_neg hu, if_neg hu]
      refine ⟨?_, by omega, fun i hi => ?_, fun i => upd_lt hcb (by omega) i⟩
      · exact dgs_push hp (by omega)
      · rw [updN_n _ _ _ (by omega)]
        exact cpP_lo hi
  · rw [if_neg hv, if_neg hv, if_neg hv]
    by_cases hu : Fc r / 64 % 4 = 0
    · rw [if_pos hu, if_pos hu, if_pos hu]
      refine ⟨?_, by omega, fun i hi => ?_, fun i => upd_lt hcb (by omega) i⟩
      · exact dgs_push hp (by omega)
      · rw [updN_n _ _ _ (by omega)]
        exact cpP_lo hi
    · rw [if_neg hu, if_neg hu, if_neg hu]
      refine ⟨?_, by omega, fun i hi => ?_, fun i => upd_lt (fun i => upd_lt hcb (by omega) i) (by omega) i⟩
      · have h9 := dgs_push (j := Fc r / 64 % 4 - 1) (dgs_push (j := Fc r / 256 % 4 - 1) hp (by omega)) (by omega)
        rw [show h - 1 + 1 + 1 = h - 1 + 1 + 1 by rfl]
        exact h9
      · rw [updN_n _ _ _ (by omega), updN_n _ _ _ (by omega)]
        exact cpP_lo hi
theorem plA_iff {P Y o t n q S0 h0 r v p S h : Nat} {Fc F a1 a2 a3 : Nat → Nat} (hR : gR (P, Y, o, t, n, Fc, q, S0, h0) F) (hr : r < n) (hd : dgs a3 v S h) (h2 : a2 v = h) (h1 : a1 v = p) (hp : p < 4) : plA F a1 a2 a3 v r ↔ 0 < h ∧ Fc r % 16 = p + 4 * (S % 4) := by
  obtain ⟨r0, r1, r2, r3, r4, l0, l1, l2, l3, l4, l5⟩ := gR_ru hR hr
  show (0 < a2 v ∧ F (5 + 5 * r) = a1 v ∧ F (5 + 5 * r + 1) = a3 (22 * v + a2 v - 1)) ↔ _
  rw [h2, h1, r0, r1]
  by_cases h0 : 0 < h
  · have h9 := hd (h - 1) (by omega)
    rw [show h - 1 - (h - 1) = 0 by omega, Nat.pow_zero, Nat.div_one, show 22 * v + (h - 1) = 22 * v + h - 1 by omega] at h9
    rw [h9]
    constructor
    · intro z; exact ⟨h0, by omega⟩
    · intro z; exact ⟨h0, by omega, by omega⟩
  · constructor
    · intro z; exact absurd z.1 h0
    · intro z; exact absurd z.1 h0
theorem first_pl (p : Nat → Prop) (n : Nat) : ∀ k r, r + k = n → ∃ r0, r ≤ r0 ∧ r0 ≤ n ∧ (∀ i, r ≤ i → i < r0 → ¬ p i) ∧ (r0 < n → p r0)
  | 0, r, hr => ⟨r, Nat.le_refl _, by omega, fun i h1 h2 => by omega, fun h => by omega⟩
  | k + 1, r, hr => by
    by_cases hp : p r
    · exact ⟨r, Nat.le_refl _, by omega, fun i h1 h2 => by omega, fun _ => hp⟩
    · obtain ⟨r0, h1, h2, h3, h4⟩ := first_pl p n k (r + 1) (by omega)
      exact ⟨r0, by omega, h2, fun i i1 i2 => by
        rcases Nat.eq_or_lt_of_le i1 with h9 | h9
        · rw [← h9]; exact hp
        · exact h3 i h9 i2, h4⟩
theorem dfo_skip {M : Nat → Nat → Nat → Nat} {op : Nat} {Fc : Nat → Nat} {p S h r : Nat} : ∀ r0, r ≤ r0 → (∀ i, r ≤ i → i < r0 → ¬ (0 < h ∧ Fc i % 16 = p + 4 * (S % 4))) → dfo M op Fc p S h r0 = dfo M op Fc p S h r := by
  intro r0
  induction r0 with
  | zero => intro h1 _; rw [show r = 0 by omega]
  | succ r0 ih =>
    intro h1 h2
    rcases Nat.eq_or_lt_of_le h1 with h3 | h3
    · rw [h3]
    · conv => lhs; unfold dfo
      rw [if_neg (h2 r0 (by omega) (by omega))]
      exact ih (by omega) (fun i i1 i2 => h2 i i1 (by omega))
/-- the rows below level w are kept -/
def kpL (w : Nat) (a b : DT) : Prop := (∀ i, i < w → b.1 i = a.1 i ∧ b.2.1 i = a.2.1 i ∧ b.2.2.2.1 i = a.2.2.2.1 i ∧ b.2.2.2.2 i = a.2.2.2.2 i) ∧ ∀ i, i < 22 * w → b.2.2.1 i = a.2.2.1 i
theorem kpL_trans {w : Nat} {a b c : DT} (h1 : kpL w a b) (h2 : kpL w b c) : kpL w a c :=
  ⟨fun i hi => ⟨((h2.1 i hi).1).trans (h1.1 i hi).1, ((h2.1 i hi).2.1).trans (h1.1 i hi).2.1, ((h2.1 i hi).2.2.1).trans (h1.1 i hi).2.2.1, ((h2.1 i hi).2.2.2).trans (h1.1 i hi).2.2.2⟩, fun i hi => (h2.2 i hi).trans (h1.2 i hi)⟩
theorem kpL_dn {w w' : Nat} {a b : DT} (h : kpL w a b) (hw : w' ≤ w) : kpL w' a b := ⟨fun i hi => h.1 i (by omega), fun i hi => h.2 i (by omega)⟩
def bdL (a : DT) : Prop := (∀ i, a.1 i < 65536) ∧ ∀ i, a.2.2.1 i < 65536
def dR (F : Nat → Nat) (fi mv nn v res : Nat) (a : DT) (o : Nat × DT) : Prop := dRun F fi mv nn v res a.1 a.2.1 a.2.2.1 a.2.2.2.1 a.2.2.2.2 o
theorem run_all {P Y o t n q S0 h0 fi mv : Nat} {Fc F : Nat → Nat} (hR : gR (P, Y, o, t, n, Fc, q, S0, h0) F) (hP4 : P ≤ 4) (hn : n ≤ 16) (hfm : fi + mv ≤ 8) : ∀ (f v p S h : Nat) (a : DT), v + f = fi + mv → fi ≤ v → p < 4 → h + f ≤ 20 → a.1 v = p → a.2.1 v = h → dgs a.2.2.1 v S h → bdL a → a.2.2.2.1 v = 0 → a.2.2.2.2 v = 0 →
    ∃ b : DT, kpL v a b ∧ bdL b ∧ (b.1 v < 4 ∧ b.2.1 v ≤ 20 ∧ b.2.2.2.1 v ≤ n ∧ b.2.2.2.2 v ≤ 1001) ∧ ∀ nn w, dR F fi mv nn v (dC o t n Fc f p S h) b w → ∃ n2, dR F fi mv n2 v 0 a w := by
  have e2 : F 2 = o := hR.1.2.2.2.2.1
  have e3 : F 3 = t := hR.1.2.2.2.2.2.1
  have e4 : F 4 = n := hR.1.2.2.2.2.2.2.1
  intro f
  induction f with
  | zero =>
    intro v p S h a hv hfi hp hh h1 h2 hd hb h4 h5
    by_cases ht : bt t p = 1
    · refine ⟨a, ⟨fun i _ => ⟨rfl, rfl, rfl, rfl⟩, fun i _ => rfl⟩, hb, ⟨by omega, by omega, by omega, by omega⟩, fun nn w hw => ⟨nn + 1, ?_⟩⟩
      unfold dC at hw
      rw [if_pos ht] at hw
      show dRun _ _ _ _ _ _ _ _ _ _ _ _
      unfold dRun
      rw [if_pos rfl, if_pos (by rw [e3, h1]; exact ht)]
      exact ⟨⟨by omega, hfi, by omega, by omega, hb.1, hb.2, by omega, by omega, by omega⟩, hw⟩
    · obtain ⟨r0, q1, q2, q3, q4⟩ := first_pl (fun r => plA F a.1 a.2.1 a.2.2.1 v r) n n 0 (by omega)
      refine ⟨(a.1, a.2.1, a.2.2.1, updN a.2.2.2.1 v r0, a.2.2.2.2), ⟨fun i hi => ⟨rfl, rfl, updN_n _ _ _ (by omega), rfl⟩, fun i _ => rfl⟩, hb, ⟨show a.1 v < 4 by omega, show a.2.1 v ≤ 20 by omega, by show updN _ _ _ _ ≤ _; rw [updN_s]; omega, show a.2.2.2.2 v ≤ 1001 by omega⟩, fun nn w hw => ⟨nn + 1, ?_⟩⟩
      unfold dC at hw
      rw [if_neg ht] at hw
      show dRun _ _ _ _ _ _ _ _ _ _ _ _
      unfold dRun
      rw [if_pos rfl, if_neg (by rw [e3, h1]; exact ht)]
      refine ⟨⟨by omega, hfi, by omega, by omega, hb.1, hb.2, by omega, by omega, by omega⟩, fun r z1 z2 z3 z4 => ?_⟩
      have hrr : r = r0 := by
        rcases Nat.lt_trichotomy r r0 with h9 | h9 | h9
        · exact absurd (z4 (by omega)) (q3 r (by omega) h9)
        · exact h9
        · exact absurd (q4 (by omega)) (z3 r0 (by omega) h9)
      subst hrr
      rw [if_pos (Or.inl (by omega)), if_pos h5]
      exact hw
  | succ f ih =>
    intro v p S h a hv hfi hp hh h1 h2 hd hb h4 h5
    have hMk := dC_ok (o := o) (t := t) (n := n) (Fc := Fc) f (by omega)
    by_cases ht : bt t p = 1
    · refine ⟨a, ⟨fun i _ => ⟨rfl, rfl, rfl, rfl⟩, fun i _ => rfl⟩, hb, ⟨by omega, by omega, by omega, by omega⟩, fun nn w hw => ⟨nn + 1, ?_⟩⟩
      unfold dC at hw
      rw [if_pos ht] at hw
      show dRun _ _ _ _ _ _ _ _ _ _ _ _
      unfold dRun
      rw [if_pos rfl, if_pos (by rw [e3, h1]; exact ht)]
      exact ⟨⟨by omega, hfi, by omega, by omega, hb.1, hb.2, by omega, by omega, by omega⟩, hw⟩
    · -- over the rules from r on
      have inner : ∀ (k r : Nat) (a : DT), r + k = n → a.1 v = p → a.2.1 v = h → dgs a.2.2.1 v S h → bdL a → a.2.2.2.1 v = r → a.2.2.2.2 v = dfo (dC o t n Fc f) (bt o p) Fc p S h r →
          ∃ b : DT, kpL v a b ∧ bdL b ∧ (b.1 v < 4 ∧ b.2.1 v ≤ 20 ∧ b.2.2.2.1 v ≤ n ∧ b.2.2.2.2 v ≤ 1001) ∧ ∀ nn w, dR F fi mv nn v (dC o t n Fc (f + 1) p S h) b w → ∃ n2, dR F fi mv n2 v 0 a w := by
        intro k
        induction k using Nat.strongRecOn with
        | _ k ihk =>
          intro r a hrk h1 h2 hd hb h4 h5
          have hdk := dfo_ok (op := bt o p) (Fc := Fc) (p := p) (S := S) (h := h) (show f + 1 < 1000 by omega) hMk r
          obtain ⟨r0, q1, q2, q3, q4⟩ := first_pl (fun r => plA F a.1 a.2.1 a.2.2.1 v r) n k r hrk
          have hpl : ∀ i, i < n → (plA F a.1 a.2.1 a.2.2.1 v i ↔ 0 < h ∧ Fc i % 16 = p + 4 * (S % 4)) := fun i hi => plA_iff hR hi hd h2 h1 hp
          have hsk : dfo (dC o t n Fc f) (bt o p) Fc p S h r0 = dfo (dC o t n Fc f) (bt o p) Fc p S h r := dfo_skip r0 q1 (fun i i1 i2 z => q3 i i1 i2 ((hpl i (by omega)).mpr z))
          have huniq : ∀ r9, a.2.2.2.1 v ≤ r9 → r9 ≤ F 4 → (∀ i, a.2.2.2.1 v ≤ i → i < r9 → ¬ plA F a.1 a.2.1 a.2.2.1 v i) → (r9 < F 4 → plA F a.1 a.2.1 a.2.2.1 v r9) → r9 = r0 := by
            intro r9 z1 z2 z3 z4
            rcases Nat.lt_trichotomy r9 r0 with h9 | h9 | h9
            · exact absurd (z4 (by omega)) (q3 r9 (by omega) h9)
            · exact h9
            · exact absurd (q4 (by omega)) (z3 r0 (by omega) h9)
          by_cases hend : r0 = n
          · -- no more rule
            refine ⟨(a.1, a.2.1, a.2.2.1, updN a.2.2.2.1 v r0, a.2.2.2.2), ⟨fun i hi => ⟨rfl, rfl, updN_n _ _ _ (by omega), rfl⟩, fun i _ => rfl⟩, hb, ⟨show a.1 v < 4 by omega, show a.2.1 v ≤ 20 by omega, by show updN _ _ _ _ ≤ _; rw [updN_s]; omega, show a.2.2.2.2 v ≤ 1001 by omega⟩, fun nn w hw => ⟨nn + 1, ?_⟩⟩
            have hsn : dfo (dC o t n Fc f) (bt o p) Fc p S h n = a.2.2.2.2 v := by rw [h5, ← hsk, hend]
            unfold dC at hw
            rw [if_neg ht, hsn] at hw
            show dRun _ _ _ _ _ _ _ _ _ _ _ _
            unfold dRun
            rw [if_pos rfl, if_neg (by rw [e3, h1]; exact ht)]
            refine ⟨⟨by omega, hfi, by omega, by omega, hb.1, hb.2, by omega, by omega, by omega⟩, fun r9 z1 z2 z3 z4 => ?_⟩
            have hrr := huniq r9 z1 z2 z3 z4
            subst hrr
            rw [if_pos (Or.inr (by omega))]
            exact hw
          · -- the rule r0 is played
            have hr0 : r0 < n := by omega
            have hplay := (hpl r0 hr0).mp (q4 hr0)
            obtain ⟨c1, c2, c3, c4⟩ := go_cfg hR hr0 hd h2 (by omega) hb.2
            obtain ⟨u0, u1, u2, u3, u4, l0, l1, l2, l3, l4, l5⟩ := gR_ru hR hr0
            have hAf : hAft h (Fc r0) ≤ h + 1 := by
              unfold hAft
              (repeat' split) <;> omega
            obtain ⟨b1, kb1, bb1, b1k, cb1⟩ := ih (v + 1) (Fc r0 / 16 % 4) (sAft S (Fc r0)) (hAft h (Fc r0)) (updN a.1 (v + 1) (F (5 + 5 * r0 + 2)), updN a.2.1 (v + 1) (goH F a.2.1 v r0), goP F a.2.1 a.2.2.1 v r0, updN (updN a.2.2.2.1 v (r0 + 1)) (v + 1) 0, updN a.2.2.2.2 (v + 1) 0)
              (by omega) (by omega) (by omega) (by omega) (by show updN _ _ _ _ = _; rw [updN_s, u2]) (by show updN _ _ _ _ = _; rw [updN_s, c2]) c1 ⟨fun i => upd_lt hb.1 (by rw [u2]; omega) i, c4⟩ (updN_s _ _ _) (updN_s _ _ _)
            have kv := kb1.1 v (by omega)
            dsimp only at kv
            rw [updN_n _ _ _ (by omega), updN_n _ _ _ (by omega), updN_n _ _ _ (by omega), updN_s, updN_n _ _ _ (by omega)] at kv
            have hdk1 : dfo (dC o t n Fc f) (bt o p) Fc p S h (r0 + 1) = fnd (bt o p) (a.2.2.2.2 v) (dC o t n Fc f (Fc r0 / 16 % 4) (sAft S (Fc r0)) (hAft h (Fc r0))) := by
              conv => lhs; unfold dfo
              rw [if_pos hplay, hsk, h5]
            have hres := hMk (Fc r0 / 16 % 4) (sAft S (Fc r0)) (hAft h (Fc r0))
            obtain ⟨b2, kb2, bb2, b2k, cb2⟩ := ihk (n - (r0 + 1)) (by omega) (r0 + 1) (b1.1, b1.2.1, b1.2.2.1, b1.2.2.2.1, updN b1.2.2.2.2 v (fnd (bt (F 2) (b1.1 v)) (b1.2.2.2.2 v) (dC o t n Fc f (Fc r0 / 16 % 4) (sAft S (Fc r0)) (hAft h (Fc r0)))))
              (by omega) (by show b1.1 v = p; rw [kv.1, h1]) (by show b1.2.1 v = h; rw [kv.2.1, h2]) (fun k hk => by
                show b1.2.2.1 (22 * v + k) = _
                rw [kb1.2 _ (by omega)]
                show goP F a.2.1 a.2.2.1 v r0 (22 * v + k) = _
                rw [c3 _ (by omega)]
                exact hd k hk) bb1 (by show b1.2.2.2.1 v = _; rw [kv.2.2.1]) (by
                show updN _ _ _ v = _
                rw [updN_s, kv.1, kv.2.2.2, h1, e2, hdk1])
            refine ⟨b2, kpL_trans ⟨fun i hi => ?_, fun i hi => ?_⟩ kb2, bb2, b2k, fun nn w hw => ?_⟩
            · have k9 := kb1.1 i (by omega)
              dsimp only at k9 ⊢
              rw [updN_n _ _ _ (by omega), updN_n _ _ _ (by omega), updN_n _ _ _ (by omega), updN_n _ _ _ (by omega), updN_n _ _ _ (by omega)] at k9
              rw [updN_n _ _ _ (by omega)]
              exact k9
            · have k9 := kb1.2 i (by omega)
              dsimp only at k9 ⊢
              rw [k9]
              exact c3 i (by omega)
            · obtain ⟨n2, hn2⟩ := cb2 nn w hw
              have hup : dR F fi mv (n2 + 1) (v + 1) (dC o t n Fc f (Fc r0 / 16 % 4) (sAft S (Fc r0)) (hAft h (Fc r0))) b1 w := by
                show dRun _ _ _ _ _ _ _ _ _ _ _ _
                unfold dRun
                rw [if_neg (by omega), Nat.add_sub_cancel]
                have kw : a.2.2.2.2 v ≤ 1001 := by omega
                refine ⟨⟨by omega, by omega, by omega, b1k.1, bb1.1, bb1.2, b1k.2.1, by rw [e4]; exact b1k.2.2.1, b1k.2.2.2⟩, by omega, by rw [kv.1, h1]; exact hp, by rw [kv.2.2.2]; exact kw, hn2⟩
              obtain ⟨n3, hn3⟩ := cb1 _ _ hup
              refine ⟨n3 + 1, ?_⟩
              show dRun _ _ _ _ _ _ _ _ _ _ _ _
              unfold dRun
              rw [if_pos rfl, if_neg (by rw [e3, h1]; exact ht)]
              refine ⟨⟨by omega, hfi, by omega, by omega, hb.1, hb.2, by omega, by omega, by omega⟩, fun r9 z1 z2 z3 z4 => ?_⟩
              have hrr := huniq r9 z1 z2 z3 z4
              subst hrr
              rw [if_neg (by omega)]
              exact ⟨by omega, hn3⟩
      exact inner n 0 a (by omega) h1 h2 hd hb h4 (by rw [h5]; rfl)
end Rel8
