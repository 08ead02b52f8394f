section Rel6
def gE (d : DS) : GT := (d.1, d.2.1, d.2.2.1, d.2.2.2.1, d.2.2.2.2.1, d.2.2.2.2.2, 0, 0, 0)
/-- a text read so far: the solver's draft and the model's row -/
def pX (Fd : Nat → Nat) (st : Nat) (d : DS) (E : Nat → Nat) : Prop := (st = 0 ∧ d = (0, 0, 0, 0, 0, Fd) ∧ E = E0) ∨ (0 < st ∧ gR (gE d) E ∧ dOk d ∧ ∀ i, 85 ≤ i → E i = 0)
theorem pX_g {Fd : Nat → Nat} {T : Nat → Nat} {E : Nat → Nat} {d : DS} {st : Nat} (h : pX Fd 0 d E) (hFd : ∀ i, Fd i < 1024) (hst : 0 < st) (t1 : 49 ≤ T 1) (t1' : T 1 ≤ 52) (t3 : 49 ≤ T 3) (t3' : T 3 ≤ 51) : pX Fd st (T 1 - 48, T 3 - 48, d.2.2) (updN (updN E 0 (T 1 - 48)) 1 (T 3 - 48)) := by
  rcases h with ⟨-, hd, hE⟩ | ⟨h0, -⟩
  · subst hd
    subst hE
    have e : ∀ i, i ≠ 0 → i ≠ 1 → updN (updN E0 0 (T 1 - 48)) 1 (T 3 - 48) i = E0 i := fun i h1 h2 => by rw [updN_n _ _ _ h2, updN_n _ _ _ h1]
    have z : ∀ i, 85 ≤ i → E0 i = 0 := fun i hi => by unfold E0; rw [if_neg (by omega)]
    refine Or.inr ⟨hst, ⟨⟨by dsimp only [gE]; omega, by dsimp only [gE]; omega, by rw [updN_n _ _ _ (by decide), updN_s]; rfl, by rw [updN_s]; rfl, by rw [e 2 (by decide) (by decide)]; rfl, by rw [e 3 (by decide) (by decide)]; rfl, by rw [e 4 (by decide) (by decide)]; rfl, fun i hi => absurd hi (Nat.not_lt_zero _)⟩, ⟨by rw [e 86 (by decide) (by decide)]; rfl, fun k hk => absurd hk (Nat.not_lt_zero _)⟩, by rw [e 85 (by decide) (by decide)]; rfl, by dsimp only [gE]; omega, by dsimp only [gE]; omega, fun w hw hz => ?_, fun i hi => absurd hi (Nat.not_lt_zero _), (by decide : (0 : Nat) < 4 ^ 0), fun i => ?_⟩, ⟨by dsimp only; omega, by dsimp only; omega, Nat.le_of_ble_eq_true rfl, Nat.le_of_ble_eq_true rfl, Nat.zero_le _, hFd⟩, fun i hi => ?_⟩
    · dsimp only [gE] at hz
      rw [Nat.zero_testBit] at hz
      exact absurd hz (by decide)
    · exact upd_lt (fun i => upd_lt E0_ok.1 (by omega) i) (by omega) i
    · rw [e i (by omega) (by omega), z i hi]
  · omega
theorem mrk_1 {T : Nat → Nat} {a : Nat} {d : DS} (h : T (a + 1) - 48 < d.1) : mrk T a d = some (if T a = 111 then (d.1, d.2.1, wbit d.2.2.1 (T (a + 1) - 48) 1, d.2.2.2) else (d.1, d.2.1, d.2.2.1, wbit d.2.2.2.1 (T (a + 1) - 48) 1, d.2.2.2.2)) := by
  unfold mrk numT
  rw [show a + 1 + 2 * 0 = a + 1 by omega, if_pos h]
theorem pX_o {Fd : Nat → Nat} {E : Nat → Nat} {d : DS} {st st' j : Nat} (h : pX Fd st d E) (h0 : 0 < st) (h1 : 0 < st') (hj : j < d.1) (b : Prop) [Decidable b] : pX Fd st' (if b then (d.1, d.2.1, wbit d.2.2.1 j 1, d.2.2.2) else (d.1, d.2.1, d.2.2.1, wbit d.2.2.2.1 j 1, d.2.2.2.2)) (if b then updN E 2 (wbit (E 2) j 1) else updN E 3 (wbit (E 3) j 1)) := by
  rcases h with ⟨hz, -⟩ | ⟨-, hg, ho, hz⟩
  · omega
  · obtain ⟨o1, o2, o3, o4, o5, o6⟩ := id ho
    by_cases hb : b
    · rw [if_pos hb, if_pos hb]
      exact Or.inr ⟨h1, rel_own hg o3 hj (by decide), ⟨o1, o2, wbit_lt _ o3 j (by omega) 1 (by decide), o4, o5, o6⟩, fun i hi => by rw [updN_n _ _ _ (by omega)]; exact hz i hi⟩
    · rw [if_neg hb, if_neg hb]
      exact Or.inr ⟨h1, rel_tgt hg o4 hj (by decide), ⟨o1, o2, o3, wbit_lt _ o4 j (by omega) 1 (by decide), o5, o6⟩, fun i hi => by rw [updN_n _ _ _ (by omega)]; exact hz i hi⟩
theorem pX_r {Fd : Nat → Nat} {E : Nat → Nat} {d : DS} {st st' a b c u v : Nat} (h : pX Fd st d E) (h0 : 0 < st) (h1 : 0 < st') (hn : d.2.2.2.2.1 < 16) (ha : a < d.1) (hb : b < d.2.1) (hc : c < d.1) (hu : u ≤ d.2.1) (hv : v ≤ d.2.1) (huv : u = 0 → v = 0) : pX Fd st' (d.1, d.2.1, d.2.2.1, d.2.2.2.1, d.2.2.2.2.1 + 1, updN d.2.2.2.2.2 d.2.2.2.2.1 (rcode a b c u v)) (ruF E a b c u v) := by
  rcases h with ⟨hz, -⟩ | ⟨-, hg, ho, hz⟩
  · omega
  · obtain ⟨o1, o2, o3, o4, o5, o6⟩ := id ho
    have e4 : E 4 = d.2.2.2.2.1 := hg.1.2.2.2.2.2.2.1
    exact Or.inr ⟨h1, rel_add hg hn ha hb hc hu hv huv, ⟨o1, o2, o3, o4, by dsimp only; omega, fun i => upd_lt o6 (rcode_lt (by omega) (by omega) (by omega) (by omega) (by omega)) i⟩, fun i hi => by
      unfold ruF
      rw [e4]
      (repeat rw [updN_n _ _ _ (by omega)])
      exact hz i hi⟩
theorem pX_0 {Fd : Nat → Nat} {E : Nat → Nat} {d : DS} {st : Nat} (h : pX Fd st d E) (h0 : 0 < st) : E 0 = d.1 ∧ E 1 = d.2.1 ∧ E 4 = d.2.2.2.2.1 ∧ d.1 ≤ 4 ∧ d.2.1 ≤ 3 ∧ ∀ a b, a < 4 → hrC E a b (E 4) = rcnt d.2.2.2.2.2 (a + 4 * b) d.2.2.2.2.1 := by
  rcases h with ⟨hz, -⟩ | ⟨-, hg, ho, hz⟩
  · omega
  · refine ⟨hg.1.2.2.1, hg.1.2.2.2.1, hg.1.2.2.2.2.2.2.1, ho.1, ho.2.1, fun a b ha => ?_⟩
    rw [show E 4 = d.2.2.2.2.1 from hg.1.2.2.2.2.2.2.1]
    exact hrC_eq hg ha _ (Nat.le_refl _)
theorem le57 {x P : Nat} (h : x < 48 + P) (hP : P ≤ 9) : x ≤ 57 := by omega
theorem nbs_r {T : Nat → Nat} {le a m P Y : Nat} (h : rTx T le a m P Y) (hP : P ≤ 4) (hY : Y ≤ 3) : nbs T a m := by
  obtain ⟨m3, m5, hl, ht, t1, t3, t5, t7, t9, t2, t4, t6, t8⟩ := h
  constructor
  · intro i hi
    rcases (show i = 0 ∨ i = 1 ∨ i = 2 ∨ i = 3 ∨ i = 4 by omega) with hz | hz | hz | hz | hz <;> subst hz
    · exact ⟨t1.1, le57 t1.2 (by omega)⟩
    · exact ⟨t3.1, le57 t3.2 (by omega)⟩
    · exact ⟨t5.1, le57 t5.2 (by omega)⟩
    · exact ⟨(t7 (by omega)).1, le57 (t7 (by omega)).2 (by omega)⟩
    · exact ⟨(t9 (by omega)).1, le57 (t9 (by omega)).2 (by omega)⟩
  · intro i h1 hi
    rcases (show i = 1 ∨ i = 2 ∨ i = 3 ∨ i = 4 by omega) with hz | hz | hz | hz <;> subst hz
    · exact t2
    · exact t4
    · exact t6 (by omega)
    · exact t8 (by omega)
theorem ruV_le {T : Nat → Nat} {a m Y j : Nat} (h : j < m → 48 ≤ T (a + 1 + 2 * j) ∧ T (a + 1 + 2 * j) < 48 + Y) : ruV T a m j ≤ Y := by
  unfold ruV numT
  split
  · rename_i hj
    have := h hj
    omega
  · omega
/-- the model reads a statement: the solver reads it too -/
theorem sm_cls {Fd ft T : Nat → Nat} {le st : Nat} {E : Nat → Nat} {d : DS} {q : Nat × (Nat → Nat)} (hT : ∀ i, i < le → T i = ft i) (hp : pX Fd st d E) (hFd : ∀ i, Fd i < 1024) (h : smM ft le E st = some q) : ∃ i d', q.1 = i + 1 ∧ i < le ∧ T i = 59 ∧ (∀ k, st ≤ k → k < i → T k ≠ 59) ∧ st ≤ i ∧ stm T st i d = some d' ∧ pX Fd (i + 1) d' q.2 := by
  unfold smM at h
  split at h
  · rename_i h0
    subst h0
    obtain ⟨hl, t0, t1, t1', t2, t3, t3', t4, hq⟩ := s1M_to hT h
    have hn : nbs T 0 2 := by
      constructor
      · intro i hi
        rcases (show i = 0 ∨ i = 1 by omega) with hz | hz <;> subst hz
        · exact ⟨by show 48 ≤ T 1; omega, by show T 1 ≤ 57; omega⟩
        · exact ⟨by show 48 ≤ T 3; omega, by show T 3 ≤ 57; omega⟩
      · intro i h1 hi
        rw [show i = 1 by omega]
        exact t2
    refine ⟨4, (T 1 - 48, T 3 - 48, d.2.2), by rw [hq], hl, t4, fun k h1 h2 => nbs_59 hn (by omega) h1 h2, by omega, ?_, ?_⟩
    · rw [show (4 : Nat) = 0 + 2 * 2 by rfl, stm_m (by decide) hn, if_pos (by rw [t0]; decide), if_pos t0, if_pos rfl]
      unfold szs numT
      rw [show 0 + 1 + 2 * 0 = 1 by rfl, show 0 + 1 + 2 * 1 = 3 by rfl, if_pos (by omega)]
    · rw [hq]
      exact pX_g hp hFd (by omega) t1 t1' t3 t3'
  · rename_i h0
    have hs : 0 < st := by omega
    obtain ⟨p0, p1, p4, l0, l1, prc⟩ := pX_0 hp hs
    by_cases hk : ltr ft le st = 111 ∨ ltr ft le st = 116
    · obtain ⟨hl, t0, t1, t1', t2, hq⟩ := oM_to hT hk (by omega) h
      have hn : nbs T st 1 := by
        constructor
        · intro i hi
          rw [show i = 0 by omega]
          exact ⟨t1, by show T (st + 1) ≤ 57; omega⟩
        · intro i h1 hi
          omega
      have hj : T (st + 1) - 48 < d.1 := by omega
      refine ⟨st + 2, (if T st = 111 then (d.1, d.2.1, wbit d.2.2.1 (T (st + 1) - 48) 1, d.2.2.2) else (d.1, d.2.1, d.2.2.1, wbit d.2.2.2.1 (T (st + 1) - 48) 1, d.2.2.2.2)), by rw [hq], hl, t2, fun k h1 h2 => nbs_59 hn (by omega) h1 h2, by omega, ?_, ?_⟩
      · rw [show st + 2 = st + 2 * 1 by omega, stm_m (by decide) hn, if_pos (by omega), if_neg (by omega), if_pos t0, if_pos rfl]
        exact mrk_1 hj
      · rw [hq]
        exact pX_o hp hs (by omega) hj (T st = 111)
    · unfold s0M at h
      rw [if_neg hk] at h
      split at h
      · rename_i h114
        have t0 := lt_in hT h114 (by decide)
        obtain ⟨m, hr, hrc, hq⟩ := riM_to hT h
        rw [p0, p1] at hr
        have hn := nbs_r hr l0 l1
        obtain ⟨m3, m5, hl, ht, t1, t3, t5, t7, t9, t2, t4, t6, t8⟩ := id hr
        rw [prc _ _ (by omega), p4] at hrc
        have hu : ruV T st m 3 ≤ d.2.1 := ruV_le (fun hz => t7 hz)
        have hv : ruV T st m 4 ≤ d.2.1 := ruV_le (fun hz => t9 hz)
        have n0 : numT T st 0 = T (st + 1) - 48 := rfl
        have n1 : numT T st 1 = T (st + 3) - 48 := rfl
        have n2 : numT T st 2 = T (st + 5) - 48 := rfl
        refine ⟨st + 2 * m, (d.1, d.2.1, d.2.2.1, d.2.2.2.1, d.2.2.2.2.1 + 1, updN d.2.2.2.2.2 d.2.2.2.2.1 (rcode (numT T st 0) (numT T st 1) (numT T st 2) (ruV T st m 3) (ruV T st m 4))), by rw [hq], hl, ht, fun k h1 h2 => nbs_59 hn (by omega) h1 h2, by omega, ?_, ?_⟩
        · rw [stm_m (by omega) hn, if_pos (by omega), if_neg (by omega), if_neg (by omega), if_pos ⟨t0.2, m3, m5⟩]
          unfold rul
          rw [if_pos (by rw [n0, n1, n2]; exact ⟨by omega, by omega, by omega, hu, hv, hrc.2, hrc.1⟩)]
        · rw [hq, n0, n1, n2]
          exact pX_r hp hs (by omega) hrc.2 (by omega) (by omega) (by omega) hu hv (fun hz => ruV_z hz)
      · exact (nso h).elim
/-- the solver reads a statement: the model reads it too -/
theorem cls_sm {Fd ft T : Nat → Nat} {le st i : Nat} {E : Nat → Nat} {d d' : DS} (hT : ∀ i, i < le → T i = ft i) (hp : pX Fd st d E) (hi : i < le) (h59 : T i = 59) (h : stm T st i d = some d') : ∃ q, smM ft le E st = some q := by
  obtain ⟨m, m1, hb, hn⟩ := stm_ex h
  subst hb
  rw [stm_m m1 hn] at h
  unfold smM
  split at h
  · rename_i hiff
    split at h
    · rename_i h103
      have h0 : st = 0 := hiff.mp h103
      subst h0
      rw [if_pos rfl]
      split at h
      · rename_i hm
        subst hm
        unfold szs at h
        split at h
        · rename_i hz
          unfold numT at hz
          simp only [Nat.zero_add, Nat.mul_zero, Nat.mul_one, Nat.add_zero, Nat.reduceAdd, Nat.reduceMul] at hz hi h59
          have d0 := hn.1 0 (by decide)
          have d1 := hn.1 1 (by decide)
          have d2 := hn.2 1 (by decide) (by decide)
          simp only [Nat.zero_add, Nat.mul_zero, Nat.mul_one, Nat.add_zero, Nat.reduceAdd, Nat.reduceMul] at d0 d1 d2
          exact s1M_of hT ⟨hi, h103, by omega, by omega, d2, by omega, by omega, h59⟩
        · exact (nso h).elim
      · exact (nso h).elim
    · rename_i h103
      have h0 : ¬ st = 0 := fun hz => h103 (hiff.mpr hz)
      rw [if_neg h0]
      have hs : 0 < st := by omega
      obtain ⟨p0, p1, p4, l0, l1, prc⟩ := pX_0 hp hs
      split at h
      · rename_i hk
        split at h
        · rename_i hm
          subst hm
          unfold mrk numT at h
          split at h
          · rename_i hz
            have d0 := hn.1 0 (by decide)
            rw [show st + 1 + 2 * 0 = st + 1 by omega] at hz d0
            exact oM_of hT ⟨by omega, hk, d0.1, by omega, by rw [show st + 2 = st + 2 * 1 by omega]; exact h59⟩
          · exact (nso h).elim
        · exact (nso h).elim
      · rename_i hk
        split at h
        · rename_i hr
          obtain ⟨h114, m3, m5⟩ := hr
          unfold rul at h
          split at h
          · rename_i hz
            obtain ⟨z0, z1, z2, z3, z4, z5, z6⟩ := hz
            have n0 : numT T st 0 = T (st + 1) - 48 := rfl
            have n1 : numT T st 1 = T (st + 3) - 48 := rfl
            have n2 : numT T st 2 = T (st + 5) - 48 := rfl
            rw [n0] at z0 z6
            rw [n1] at z1 z6
            rw [n2] at z2
            have d0 := hn.1 0 (by omega)
            have d1 := hn.1 1 (by omega)
            have d2 := hn.1 2 (by omega)
            have c1 := hn.2 1 (by omega) (by omega)
            have c2 := hn.2 2 (by omega) (by omega)
            simp only [Nat.mul_zero, Nat.mul_one, Nat.add_zero, Nat.add_assoc, Nat.reduceAdd, Nat.reduceMul] at d0 d1 d2 c1 c2
            have hrt : rTx T le st m (E 0) (E 1) := by
              rw [p0, p1]
              refine ⟨m3, m5, hi, h59, by omega, by omega, by omega, fun hz => ?_, fun hz => ?_, c1, c2, fun hz => ?_, fun hz => ?_⟩
              · have d3 := hn.1 3 hz
                unfold ruV numT at z3
                rw [if_pos hz] at z3
                simp only [Nat.add_assoc, Nat.reduceAdd, Nat.reduceMul] at d3 z3
                omega
              · have d3 := hn.1 4 hz
                unfold ruV numT at z4
                rw [if_pos hz] at z4
                simp only [Nat.add_assoc, Nat.reduceAdd, Nat.reduceMul] at d3 z4
                omega
              · exact hn.2 3 (by omega) hz
              · exact hn.2 4 (by omega) hz
            obtain ⟨q, hq⟩ := riM_of hT hrt (by rw [prc _ _ (by omega), p4]; exact ⟨z6, z5⟩)
            have hlt : ltr ft le st = T st := lt_of hT (by omega)
            unfold s0M
            rw [if_neg (by omega), if_pos (by omega)]
            exact ⟨q, hq⟩
          · exact (nso h).elim
        · exact (nso h).elim
  · exact (nso h).elim
/-- the whole text: the same answer, and the same game -/
theorem rd_ra {Fd ft T : Nat → Nat} {le : Nat} (hT : ∀ i, i < le → T i = ft i) (hFd : ∀ i, Fd i < 1024) : ∀ (f i st n : Nat) (d : DS) (E : Nat → Nat), i + f = le → st ≤ i → le < n + st → pX Fd st d E → (∀ k, st ≤ k → k < i → T k ≠ 59) →
    (rdL T le f i st d).1 = (raM ft le n E st).1 ∧ ((rdL T le f i st d).1 = none → pX Fd le (rdL T le f i st d).2 (raM ft le n E st).2)
  | 0, i, st, n, d, E, hf, hi, hn, hp, h59 => by
    unfold rdL
    by_cases hl : st < le
    · have hs : smM ft le E st = none := by
        cases hq : smM ft le E st with
        | none => rfl
        | some q =>
          obtain ⟨i', d', e1, e2, e3, e4, e5, -⟩ := sm_cls hT hp hFd hq
          exact absurd e3 (h59 i' e5 (by omega))
      rw [raM_n hl hn hs, if_pos hl]
      exact ⟨rfl, fun hz => (nso hz.symm).elim⟩
    · rw [raM_e hl, if_neg hl]
      refine ⟨rfl, fun _ => ?_⟩
      rw [show le = st by omega]
      exact hp
  | f + 1, i, st, n, d, E, hf, hi, hn, hp, h59 => by
    unfold rdL
    by_cases hc : T i = 59
    · rw [if_pos hc]
      cases hs : stm T st i d with
      | none =>
        have hm : smM ft le E st = none := by
          cases hq : smM ft le E st with
          | none => rfl
          | some q =>
            obtain ⟨i', d', e1, e2, e3, e4, e5, e6, -⟩ := sm_cls hT hp hFd hq
            have hii : i' = i := by
              rcases Nat.lt_trichotomy i' i with h1 | h1 | h1
              · exact absurd e3 (h59 i' e5 h1)
              · exact h1
              · exact absurd hc (e4 i hi h1)
            rw [hii, hs] at e6
            exact (nso e6).elim
        rw [raM_n (by omega) hn hm]
        exact ⟨rfl, fun hz => (nso hz.symm).elim⟩
      | some d2 =>
        obtain ⟨q, hq⟩ := cls_sm hT hp (by omega) hc hs
        obtain ⟨i', d', e1, e2, e3, e4, e5, e6, e7⟩ := sm_cls hT hp hFd hq
        have hii : i' = i := by
          rcases Nat.lt_trichotomy i' i with h1 | h1 | h1
          · exact absurd e3 (h59 i' e5 h1)
          · exact h1
          · exact absurd hc (e4 i hi h1)
        subst hii
        rw [hs] at e6
        have hdd := Option.some.inj e6
        subst hdd
        obtain ⟨n1, hn1, hr⟩ := raM_s (r := raM ft le n E st) rfl (by omega) hn hq
        rw [← hr, e1]
        exact rd_ra hT hFd f (i' + 1) (i' + 1) n1 d2 q.2 (by omega) (Nat.le_refl _) (by omega) e7 (fun k h1 h2 => by omega)
    · rw [if_neg hc]
      exact rd_ra hT hFd f (i + 1) st n d E (by omega) (by omega) hn hp (fun k h1 h2 => by
        rcases Nat.eq_or_lt_of_le (Nat.le_of_lt_succ h2) with h3 | h3
        · rw [h3]; exact hc
        · exact h59 k h1 h3)
theorem rd_eq {Fd ft T : Nat → Nat} {le : Nat} (hT : ∀ i, i < le → T i = ft i) (hFd : ∀ i, Fd i < 1024) : (rd T le Fd).1 = (raM ft le (le + 1) E0 0).1 ∧ ((rd T le Fd).1 = none → pX Fd le (rd T le Fd).2 (raM ft le (le + 1) E0 0).2) :=
  rd_ra hT hFd le 0 0 (le + 1) (0, 0, 0, 0, 0, Fd) E0 (by omega) (Nat.le_refl _) (by omega) (Or.inl ⟨rfl, rfl, rfl⟩) (fun k h1 h2 => by omega)
/-- the game that a text sets up -/
theorem gR_conf {Fd : Nat → Nat} {le : Nat} {d : DS} {E F : Nat → Nat} {g : GT} (h : pX Fd le d E) (hl : 0 < le) (hFb : ∀ i, F i < 65536) : gR (rsG (dG d) g) (updN (cpyN E F 99) 86 1) := by
  rcases h with ⟨hz, -⟩ | ⟨-, hg, ho, hz⟩
  · omega
  · have p1 := rel_push (j := 0) hg ho.2.2.2.2.1 (by decide) (by have h1 := hg.2.2.2.2.1; exact h1)
    have p2 := gR_copy (G := g.2.2.2.2.2.1) p1 ho.2.2.2.2.1
    refine gR_congr p2 ho.2.2.2.2.1 (Nat.le_of_ble_eq_true rfl) (fun i hi => ?_) (fun i => upd_lt (fun i => cpy_lt hg.2.2.2.2.2.2.2.2 hFb i) (by decide) i)
    rw [hz 86 (by decide)]
    unfold updN cpyN
    by_cases h1 : i = 86
    · rw [if_pos h1, if_pos h1]
    · rw [if_neg h1, if_neg h1, if_pos hi]
      by_cases h2 : i = 87 + 0
      · rw [if_pos h2, hz i (by omega)]
      · rw [if_neg h2]
end Rel6
