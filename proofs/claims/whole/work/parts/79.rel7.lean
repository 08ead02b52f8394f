section Rel7
/-- the best so far of the rules before r, one higher; 0: none playable -/
def dfo (M : Nat → Nat → Nat → Nat) (op : Nat) (Fc : Nat → Nat) (p S h : Nat) : Nat → Nat
  | 0 => 0
  | r + 1 => if 0 < h ∧ Fc r % 16 = p + 4 * (S % 4) then fnd op (dfo M op Fc p S h r) (M (Fc r / 16 % 4) (sAft S (Fc r)) (hAft h (Fc r))) else dfo M op Fc p S h r
/-- the moves to a target within f moves, one higher; 1001: none -/
def dC (o t n : Nat) (Fc : Nat → Nat) : Nat → Nat → Nat → Nat → Nat
  | 0, p, _, _ => if bt t p = 1 then 1 else 1001
  | f + 1, p, S, h => if bt t p = 1 then 1 else if dfo (dC o t n Fc f) (bt o p) Fc p S h n = 0 then 1001 else dfo (dC o t n Fc f) (bt o p) Fc p S h n
def okM (M : Nat → Nat → Nat → Nat) (L : Nat) : Prop := ∀ p S h, 1 ≤ M p S h ∧ (M p S h ≤ L ∨ M p S h = 1001)
theorem fnd_ok {op had c L : Nat} (hL : L < 1000) (h1 : 1 ≤ c) (h2 : c ≤ L ∨ c = 1001) (h3 : had = 0 ∨ 2 ≤ had) (h4 : had ≤ L + 1 ∨ had = 1001) : 2 ≤ fnd op had c ∧ (fnd op had c ≤ L + 1 ∨ fnd op had c = 1001) := by
  unfold fnd byN
  (repeat' split) <;> omega
theorem dfo_ok {M : Nat → Nat → Nat → Nat} {op L : Nat} {Fc : Nat → Nat} {p S h : Nat} (hL : L < 1000) (hM : okM M L) : ∀ r, (dfo M op Fc p S h r = 0 ∨ 2 ≤ dfo M op Fc p S h r) ∧ (dfo M op Fc p S h r ≤ L + 1 ∨ dfo M op Fc p S h r = 1001)
  | 0 => ⟨Or.inl rfl, Or.inl (Nat.zero_le _)⟩
  | r + 1 => by
    have ih := dfo_ok (op := op) (Fc := Fc) (p := p) (S := S) (h := h) hL hM r
    unfold dfo
    split
    · have h1 := hM (Fc r / 16 % 4) (sAft S (Fc r)) (hAft h (Fc r))
      have h2 := fnd_ok (op := op) hL h1.1 h1.2 ih.1 ih.2
      exact ⟨Or.inr h2.1, h2.2⟩
    · exact ih
theorem dC_ok {o t n : Nat} {Fc : Nat → Nat} : ∀ f, f < 900 → okM (dC o t n Fc f) (f + 1)
  | 0, _, p, S, h => by
    unfold dC
    split <;> omega
  | f + 1, hf, p, S, h => by
    have ih := dfo_ok (op := bt o p) (Fc := Fc) (p := p) (S := S) (h := h) (show f + 1 < 1000 by omega) (dC_ok (o := o) (t := t) (n := n) (Fc := Fc) f (by omega)) n
    unfold dC
    (repeat' split) <;> omega
def rsD (c lim : Nat) : Option Nat := if c ≤ lim + 1 then some (c - 1) else none
theorem rsD_s {c lim : Nat} (h : c ≤ lim + 1) : rsD c lim = some (c - 1) := if_pos h
theorem rsD_n {c lim : Nat} (h : ¬ c ≤ lim + 1) : rsD c lim = none := if_neg h
theorem lt_dfo {M : Nat → Nat → Nat → Nat} {N : Nat → Nat → Nat → Option Nat} {Fc : Nat → Nat} {n p S h lim L : Nat} (hL : L < 1000) (hh : 0 < h) (hl : 1 ≤ lim) (hl2 : lim ≤ 900) (hM : okM M L) (hN : ∀ p S h, N p S h = rsD (M p S h) (lim - 1)) : ∀ j b, j ≤ n → (dfo M 1 Fc p S h (n - j) = 0 → b = none) → (dfo M 1 Fc p S h (n - j) ≠ 0 → dfo M 1 Fc p S h (n - j) ≤ lim + 1 ∧ b = some (dfo M 1 Fc p S h (n - j) - 1)) →
    ltL N Fc n (p + 4 * (S % 4)) S h j b = (if dfo M 1 Fc p S h n = 0 then none else rsD (dfo M 1 Fc p S h n) lim)
  | 0, b, hj, h0, h1 => by
    unfold ltL
    rw [Nat.sub_zero] at h0 h1
    by_cases hz : dfo M 1 Fc p S h n = 0
    · rw [if_pos hz]
      exact h0 hz
    · rw [if_neg hz, rsD_s (h1 hz).1]
      exact (h1 hz).2
  | j + 1, b, hj, h0, h1 => by
    unfold ltL
    have hs : n - j = n - (j + 1) + 1 := by omega
    by_cases hp : Fc (n - (j + 1)) % 16 = p + 4 * (S % 4)
    · rw [if_pos hp, hN]
      have hm := hM (Fc (n - (j + 1)) / 16 % 4) (sAft S (Fc (n - (j + 1)))) (hAft h (Fc (n - (j + 1))))
      have hd : dfo M 1 Fc p S h (n - j) = fnd 1 (dfo M 1 Fc p S h (n - (j + 1))) (M (Fc (n - (j + 1)) / 16 % 4) (sAft S (Fc (n - (j + 1)))) (hAft h (Fc (n - (j + 1))))) := by
        rw [hs]
        conv => lhs; unfold dfo
        rw [if_pos ⟨hh, hp⟩]
      generalize M (Fc (n - (j + 1)) / 16 % 4) (sAft S (Fc (n - (j + 1)))) (hAft h (Fc (n - (j + 1)))) = c at hm hd ⊢
      have hk := dfo_ok (op := 1) (Fc := Fc) (p := p) (S := S) (h := h) hL hM (n - (j + 1))
      generalize dfo M 1 Fc p S h (n - (j + 1)) = had at hd h0 h1 hk
      by_cases hc : c ≤ lim - 1 + 1
      · rw [rsD_s hc]
        refine lt_dfo hL hh hl hl2 hM hN j _ (by omega) (fun hz => ?_) (fun hz => ?_)
        · rw [hd] at hz
          exfalso
          unfold fnd byN at hz
          (repeat' split at hz) <;> omega
        · rw [hd]
          by_cases hh0 : had = 0
          · rw [h0 hh0, hh0]
            refine ⟨by unfold fnd byN; (repeat' split) <;> omega, ?_⟩
            show some (max 0 (c - 1 + 1)) = _
            congr 1
            unfold fnd byN
            (repeat' split) <;> omega
          · obtain ⟨q1, q2⟩ := h1 hh0
            rw [q2]
            refine ⟨by unfold fnd byN; (repeat' split) <;> omega, ?_⟩
            show some (max (had - 1) (c - 1 + 1)) = _
            congr 1
            unfold fnd byN
            (repeat' split) <;> omega
      · rw [rsD_n hc]
        have hbig : lim + 1 < dfo M 1 Fc p S h (n - j) := by
          rw [hd]
          unfold fnd byN
          (repeat' split) <;> omega
        have hmono : ∀ i, n - j ≤ i → lim + 1 < dfo M 1 Fc p S h i := by
          intro i hi
          induction i with
          | zero => rw [show (0 : Nat) = n - j by omega]; exact hbig
          | succ i ih =>
            rcases Nat.eq_or_lt_of_le hi with h9 | h9
            · rw [← h9]; exact hbig
            · have h8 := ih (by omega)
              have h7 := (hM (Fc i / 16 % 4) (sAft S (Fc i)) (hAft h (Fc i))).1
              unfold dfo
              split
              · unfold fnd byN
                (repeat' split) <;> omega
              · exact h8
        have hf := hmono n (by omega)
        rw [if_neg (by omega), rsD_n (by omega)]
    · rw [if_neg hp]
      have hd : dfo M 1 Fc p S h (n - j) = dfo M 1 Fc p S h (n - (j + 1)) := by
        rw [hs]
        conv => lhs; unfold dfo
        rw [if_neg (fun z => hp z.2)]
      exact lt_dfo hL hh hl hl2 hM hN j b (by omega) (by rw [hd]; exact h0) (by rw [hd]; exact h1)
theorem so_dfo {M : Nat → Nat → Nat → Nat} {N : Nat → Nat → Nat → Nat → Option Nat} {Fc : Nat → Nat} {n p S h lim L op : Nat} (hop : op ≠ 1) (hL : L < 1000) (hh : 0 < h) (hl2 : lim ≤ 900) (hM : okM M L) (hN : ∀ l p S h, l ≤ 900 → N l p S h = rsD (M p S h) l) : ∀ j b l1, j ≤ n → ((dfo M op Fc p S h (n - j) = 0 ∨ lim + 1 < dfo M op Fc p S h (n - j)) → b = none ∧ l1 = lim) → (dfo M op Fc p S h (n - j) ≠ 0 → dfo M op Fc p S h (n - j) ≤ lim + 1 → b = some (dfo M op Fc p S h (n - j) - 1) ∧ l1 + 2 = dfo M op Fc p S h (n - j)) →
    soL N Fc n (p + 4 * (S % 4)) S h j b l1 = (if dfo M op Fc p S h n = 0 then none else rsD (dfo M op Fc p S h n) lim)
  | 0, b, l1, hj, h0, h1 => by
    unfold soL
    rw [Nat.sub_zero] at h0 h1
    by_cases hz : dfo M op Fc p S h n = 0
    · rw [if_pos hz]
      exact (h0 (Or.inl hz)).1
    · rw [if_neg hz]
      by_cases hw : dfo M op Fc p S h n ≤ lim + 1
      · rw [rsD_s hw]
        exact (h1 hz hw).1
      · rw [rsD_n hw]
        exact (h0 (Or.inr (by omega))).1
  | j + 1, b, l1, hj, h0, h1 => by
    unfold soL
    have hs : n - j = n - (j + 1) + 1 := by omega
    have hk := dfo_ok (op := op) (Fc := Fc) (p := p) (S := S) (h := h) hL hM (n - (j + 1))
    by_cases hl1 : l1 = 0
    · rw [if_pos hl1]
      by_cases hcs : dfo M op Fc p S h (n - (j + 1)) = 0 ∨ lim + 1 < dfo M op Fc p S h (n - (j + 1))
      · have hb := h0 hcs
        -- no limit at all
        have hno : ∀ i, dfo M op Fc p S h i = 0 ∨ lim + 1 < dfo M op Fc p S h i := by
          intro i
          have := (dfo_ok (op := op) (Fc := Fc) (p := p) (S := S) (h := h) hL hM i).1
          omega
        rw [hb.1]
        rcases hno n with h9 | h9
        · rw [if_pos h9]
        · rw [if_neg (by omega), rsD_n (by omega)]
      · have hb := h1 (by omega) (by omega)
        have h2 : dfo M op Fc p S h (n - (j + 1)) = 2 := by omega
        have hmono : ∀ i, n - (j + 1) ≤ i → dfo M op Fc p S h i = 2 := by
          intro i hi
          induction i with
          | zero => rw [show (0 : Nat) = n - (j + 1) by omega]; exact h2
          | succ i ih =>
            rcases Nat.eq_or_lt_of_le hi with h9 | h9
            · rw [← h9]; exact h2
            · have h8 := ih (by omega)
              have h7 := (hM (Fc i / 16 % 4) (sAft S (Fc i)) (hAft h (Fc i))).1
              unfold dfo
              split
              · rw [h8]
                unfold fnd byN
                (repeat' split) <;> omega
              · exact h8
        rw [hb.1, hmono n (by omega), h2, if_neg (by omega), rsD_s (by omega)]
    · rw [if_neg hl1]
      by_cases hp : Fc (n - (j + 1)) % 16 = p + 4 * (S % 4)
      · rw [if_pos hp, hN _ _ _ _ (by
          by_cases hcs : dfo M op Fc p S h (n - (j + 1)) = 0 ∨ lim + 1 < dfo M op Fc p S h (n - (j + 1))
          · have := (h0 hcs).2; omega
          · have := (h1 (by omega) (by omega)).2; omega)]
        have hm := hM (Fc (n - (j + 1)) / 16 % 4) (sAft S (Fc (n - (j + 1)))) (hAft h (Fc (n - (j + 1))))
        have hd : dfo M op Fc p S h (n - j) = fnd op (dfo M op Fc p S h (n - (j + 1))) (M (Fc (n - (j + 1)) / 16 % 4) (sAft S (Fc (n - (j + 1)))) (hAft h (Fc (n - (j + 1))))) := by
          rw [hs]
          conv => lhs; unfold dfo
          rw [if_pos ⟨hh, hp⟩]
        generalize M (Fc (n - (j + 1)) / 16 % 4) (sAft S (Fc (n - (j + 1)))) (hAft h (Fc (n - (j + 1)))) = c at hm hd ⊢
        generalize dfo M op Fc p S h (n - (j + 1)) = had at hd h0 h1 hk
        have hfn : fnd op had c = if had = 0 then byN c else if byN c < had then byN c else had := by
          unfold fnd
          by_cases h9 : had = 0
          · rw [if_pos h9, if_pos h9]
          · rw [if_neg h9, if_neg h9, if_neg hop]
        have hby : byN c = if c < 1001 then c + 1 else 1001 := rfl
        rw [hby] at hfn
        by_cases hc : c ≤ l1 - 1 + 1
        · rw [rsD_s hc]
          refine so_dfo hop hL hh hl2 hM hN j _ _ (by omega) (fun hz => ?_) (fun hz hz2 => ?_)
          · exfalso
            rw [hd, hfn] at hz
            by_cases hcs : had = 0 ∨ lim + 1 < had
            · have := (h0 hcs).2
              (repeat' split at hz) <;> omega
            · have := (h1 (by omega) (by omega)).2
              (repeat' split at hz) <;> omega
          · rw [hd, hfn]
            by_cases hcs : had = 0 ∨ lim + 1 < had
            · have := (h0 hcs).2
              refine ⟨?_, ?_⟩
              · congr 1
                (repeat' split) <;> omega
              · (repeat' split) <;> omega
            · have := (h1 (by omega) (by omega)).2
              refine ⟨?_, ?_⟩
              · congr 1
                (repeat' split) <;> omega
              · (repeat' split) <;> omega
        · rw [rsD_n hc]
          refine so_dfo hop hL hh hl2 hM hN j _ _ (by omega) (fun hz => ?_) (fun hz hz2 => ?_)
          · rw [hd, hfn] at hz
            by_cases hcs : had = 0 ∨ lim + 1 < had
            · exact h0 hcs
            · exfalso
              have := (h1 (by omega) (by omega)).2
              (repeat' split at hz) <;> omega
          · rw [hd, hfn] at hz hz2 ⊢
            by_cases hcs : had = 0 ∨ lim + 1 < had
            · exfalso
              have := (h0 hcs).2
              (repeat' split at hz2) <;> omega
            · have h9 := h1 (by omega) (by omega)
              have h8 : (if had = 0 then (if c < 1001 then c + 1 else 1001) else if (if c < 1001 then c + 1 else 1001) < had then (if c < 1001 then c + 1 else 1001) else had) = had := by
                have := h9.2
                (repeat' split) <;> omega
              rw [h8]
              exact h9
      · rw [if_neg hp]
        have hd : dfo M op Fc p S h (n - j) = dfo M op Fc p S h (n - (j + 1)) := by
          rw [hs]
          conv => lhs; unfold dfo
          rw [if_neg (fun z => hp z.2)]
        exact so_dfo hop hL hh hl2 hM hN j b l1 (by omega) (by rw [hd]; exact h0) (by rw [hd]; exact h1)
theorem dfo_h0 {M : Nat → Nat → Nat → Nat} {op : Nat} {Fc : Nat → Nat} {p S : Nat} : ∀ r, dfo M op Fc p S 0 r = 0
  | 0 => rfl
  | r + 1 => by
    unfold dfo
    rw [if_neg (fun z => absurd z.1 (Nat.not_lt_zero _))]
    exact dfo_h0 r
/-- the solver's search within a limit tells the distance, if it is within -/
theorem mv_dC {o t n : Nat} {Fc : Nat → Nat} : ∀ f lim p S h, f < 900 → lim ≤ 900 → mvF o t n Fc f lim p S h = rsD (dC o t n Fc f p S h) lim
  | 0, lim, p, S, h, _, hl => by
    unfold mvF dC
    split
    · rw [rsD_s (by omega)]
    · rw [rsD_n (by omega)]
  | f + 1, lim, p, S, h, hf, hl => by
    have hM := dC_ok (o := o) (t := t) (n := n) (Fc := Fc) f (by omega)
    unfold mvF dC
    split
    · rw [rsD_s (by omega)]
    · have hk := dfo_ok (op := bt o p) (Fc := Fc) (p := p) (S := S) (h := h) (show f + 1 < 1000 by omega) hM n
      split
      · rename_i hz
        rcases hz with hz | hz
        · subst hz
          rw [dfo_h0, if_pos rfl, rsD_n (by omega)]
        · subst hz
          split
          · rw [rsD_n (by omega)]
          · rw [rsD_n (by omega)]
      · rename_i hz
        have e1 : ∀ z : Nat, (if z = 0 then (none : Option Nat) else rsD z lim) = rsD (if z = 0 then 1001 else z) lim := fun z => by
          by_cases hz9 : z = 0
          · rw [if_pos hz9, if_pos hz9, rsD_n (by omega)]
          · rw [if_neg hz9, if_neg hz9]
        split
        · rename_i hop
          rw [hop, ← e1]
          exact lt_dfo (show f + 1 < 1000 by omega) (by omega) (by omega) hl hM (fun p S h => mv_dC f (lim - 1) p S h (by omega) (by omega)) n none (Nat.le_refl _) (fun _ => rfl) (fun h9 => absurd (by rw [Nat.sub_self]; rfl) h9)
        · rename_i hop
          rw [← e1]
          exact so_dfo hop (show f + 1 < 1000 by omega) (by omega) hl hM (fun l p S h hl9 => mv_dC f l p S h (by omega) hl9) n none lim (Nat.le_refl _) (fun _ => ⟨rfl, rfl⟩) (fun h9 => absurd (by rw [Nat.sub_self]; rfl) h9)
end Rel7
