section Rel3
/-- the history: the newest game at nw, the model's slots oldest first -/
def hR (nw ct : Nat) (K : Nat → GT) (km : Nat) (Q : Nat → Nat) : Prop := km = ct ∧ (∀ i, Q i < 65536) ∧ ∀ j, j < ct → gR (K ((nw + 6 - j) % 6)) (fun i => Q (99 * (ct - 1 - j) + i))
theorem gR_copy {g : GT} {F G : Nat → Nat} (h : gR g F) (hn : g.2.2.2.2.1 ≤ 16) : gR (g.1, g.2.1, g.2.2.1, g.2.2.2.1, g.2.2.2.2.1, cpyN g.2.2.2.2.2.1 G 16, g.2.2.2.2.2.2) F := by
  obtain ⟨P, Y, o, t, n, Fc, q, S, h9⟩ := g
  exact gR_cls h (fun i hi => by
    show cpyN Fc G 16 i = Fc i
    unfold cpyN
    have hn2 : n ≤ 16 := hn
    rw [if_pos (by omega)])
theorem kpQ_lt {km : Nat} {Q F : Nat → Nat} (hQ : ∀ i, Q i < 65536) (hF : ∀ i, F i < 65536) : ∀ i, kpQ km Q F i < 65536 := by
  intro i
  unfold kpQ
  split
  · unfold cpQ shQ
    split
    · exact hF _
    · split
      · exact hQ _
      · exact hQ _
  · unfold cpQ
    split
    · exact hF _
    · exact hQ _
theorem hR_keep {nw ct : Nat} {K : Nat → GT} {km : Nat} {Q F : Nat → Nat} {g : GT} (h : hR nw ct K km Q) (hg : gR g F) (hgo : gOk g) (hKo : ∀ j, gOk (K j)) (hnw : nw < 6) (hct : ct ≤ 6) : hR ((nw + 1) % 6) (min (ct + 1) 6) (kpG K ((nw + 1) % 6) g) (min (km + 1) 6) (kpQ km Q F) := by
  obtain ⟨h1, h2, h3⟩ := h
  subst h1
  have hb := kpQ_lt (km := km) h2 hg.2.2.2.2.2.2.2.2
  refine ⟨rfl, hb, fun j hj => ?_⟩
  by_cases hj0 : j = 0
  · subst hj0
    rw [show ((nw + 1) % 6 + 6 - 0) % 6 = (nw + 1) % 6 by omega]
    have e1 : kpG K ((nw + 1) % 6) g ((nw + 1) % 6) = (g.1, g.2.1, g.2.2.1, g.2.2.2.1, g.2.2.2.2.1, cpyN g.2.2.2.2.2.1 (K ((nw + 1) % 6)).2.2.2.2.2.1 16, g.2.2.2.2.2.2) := if_pos rfl
    rw [e1]
    refine gR_congr (gR_copy hg hgo.2.2.2.2.1) hgo.2.2.2.2.1 hgo.2.2.2.2.2.2.2.2 (fun i hi => ?_) (fun i => hb _)
    show kpQ km Q F (99 * (min (km + 1) 6 - 1 - 0) + i) = F i
    unfold kpQ
    by_cases hk : km = 6
    · rw [if_pos hk, show 99 * (min (km + 1) 6 - 1 - 0) + i = 99 * 5 + i by omega]
      unfold cpQ
      rw [if_pos (by omega), show 99 * 5 + i - 99 * 5 = i by omega]
    · rw [if_neg hk, show 99 * (min (km + 1) 6 - 1 - 0) + i = 99 * km + i by omega]
      unfold cpQ
      rw [if_pos (by omega), show 99 * km + i - 99 * km = i by omega]
  · have hjm : j < min (km + 1) 6 := hj
    rw [show ((nw + 1) % 6 + 6 - j) % 6 = (nw + 6 - (j - 1)) % 6 by omega]
    have e1 : kpG K ((nw + 1) % 6) g ((nw + 6 - (j - 1)) % 6) = K ((nw + 6 - (j - 1)) % 6) := if_neg (by omega)
    rw [e1]
    refine gR_congr (h3 (j - 1) (by omega)) (hKo _).2.2.2.2.1 (hKo _).2.2.2.2.2.2.2.2 (fun i hi => ?_) (fun i => hb _)
    show kpQ km Q F (99 * (min (km + 1) 6 - 1 - j) + i) = Q (99 * (km - 1 - (j - 1)) + i)
    unfold kpQ
    by_cases hk : km = 6
    · rw [if_pos hk]
      unfold cpQ shQ
      rw [if_neg (by omega), if_pos (by omega)]
      congr 1
      omega
    · rw [if_neg hk]
      unfold cpQ
      rw [if_neg (by omega)]
      congr 1
      omega
theorem hR_undo {nw ct : Nat} {K : Nat → GT} {km : Nat} {Q : Nat → Nat} (h : hR nw ct K km Q) (hnw : nw < 6) (hct : ct ≤ 6) (h1 : 1 ≤ ct) : hR ((nw + 5) % 6) (ct - 1) K (km - 1) Q := by
  obtain ⟨h0, h2, h3⟩ := h
  subst h0
  refine ⟨rfl, h2, fun j hj => ?_⟩
  have h4 := h3 (j + 1) (by omega)
  rw [show ((nw + 5) % 6 + 6 - j) % 6 = (nw + 6 - (j + 1)) % 6 by omega, show km - 1 - 1 - j = km - 1 - (j + 1) by omega]
  exact h4
theorem gR_undo {nw ct : Nat} {K : Nat → GT} {km : Nat} {Q F : Nat → Nat} {g : GT} (h : hR nw ct K km Q) (hKo : ∀ j, gOk (K j)) (hFb : ∀ i, F i < 65536) (hnw : nw < 6) (h1 : 1 ≤ ct) : gR (rsG (K nw) g) (unF F Q (km - 1) 99) := by
  obtain ⟨h0, h2, h3⟩ := h
  subst h0
  have h4 := h3 0 (by omega)
  rw [show (nw + 6 - 0) % 6 = nw by omega] at h4
  refine gR_congr (gR_copy (G := g.2.2.2.2.2.1) h4 (hKo nw).2.2.2.2.1) (hKo nw).2.2.2.2.1 (hKo nw).2.2.2.2.2.2.2.2 (fun i hi => ?_) (fun i => ?_)
  · show unF F Q (km - 1) 99 i = Q (99 * (km - 1 - 0) + i)
    unfold unF
    rw [if_pos hi, Nat.sub_zero]
  · unfold unF
    split
    · exact h2 _
    · exact hFb _
theorem gOk_copy {g : GT} {G : Nat → Nat} (h : gOk g) (hG : ∀ i, G i < 1024) : gOk (g.1, g.2.1, g.2.2.1, g.2.2.2.1, g.2.2.2.2.1, cpyN g.2.2.2.2.2.1 G 16, g.2.2.2.2.2.2) :=
  ⟨h.1, h.2.1, h.2.2.1, h.2.2.2.1, h.2.2.2.2.1, fun i => cpy_lt h.2.2.2.2.2.1 hG i, h.2.2.2.2.2.2⟩
theorem gOk_rs {x g : GT} (h : gOk x) (hg : gOk g) : gOk (rsG x g) := gOk_copy h hg.2.2.2.2.2.1
theorem gOk_kp {K : Nat → GT} {c : Nat} {g : GT} (h : gOk g) (hK : ∀ j, gOk (K j)) : ∀ j, gOk (kpG K c g j) := by
  intro j
  unfold kpG updG
  split
  · exact gOk_copy h (hK c).2.2.2.2.2.1
  · exact hK j
theorem sk_24 {S h : Nat} (hS : S < 4 ^ h) (hh : h ≤ 12) : S < 2 ^ 24 := by
  have h1 : 4 ^ h ≤ 4 ^ 12 := Nat.pow_le_pow_right (by decide) hh
  have h2 : (4 : Nat) ^ 12 = 2 ^ 24 := by decide
  omega
/-- the solver's rounds end at N -/
def endC (P Y o t n : Nat) (Fc : Nat → Nat) (N : Nat) : Prop := (∀ k, k < N → chg o t n P (iA o t n P Y Fc k) Fc Y 0 = true) ∧ chg o t n P (iA o t n P Y Fc N) Fc Y 0 = false
def cR (P Y o t n : Nat) (Fc : Nat → Nat) (sl ro : Nat) (A : Nat → Nat) : Prop := sl = 0 → ∃ N, N ≤ 192 ∧ endC P Y o t n Fc N ∧ ro = N ∧ ∀ p, p < P → ∀ y, y < Y → A (p + 4 * y) = iA o t n P Y Fc N (p + 4 * y)
theorem endC_at {P Y o t n N : Nat} {Fc F B : Nat → Nat} (hg : gmR P Y o t n Fc F) (hB : ∀ i, B i < 65536) : endC P Y o t n Fc N ↔ endsAt F (bgM F B 12) N := by
  obtain ⟨hP, hY, h0, h1, h2, h3, h4, hr⟩ := id hg
  have hru := gmR_ru hg
  have hch : ∀ k, chg o t n P (iA o t n P Y Fc k) Fc Y 0 = chM F (gB F (bgM F B 12) k) (F 0) 0 := fun k => ch_eq hP hY hr h0 h1 h3 h2 h4 (iA_lt k) (gB_lt hru (bgM_lt hB) k) hru (iA_fam hg hB k)
  unfold endC endsAt
  constructor
  · intro h
    exact ⟨fun k hk => by rw [← hch]; exact h.1 k hk, by rw [← hch]; exact h.2⟩
  · intro h
    exact ⟨fun k hk => by rw [hch]; exact h.1 k hk, by rw [hch]; exact h.2⟩
theorem satC {P Y o t n sl ro : Nat} {Fc F A C : Nat → Nat} (hg : gmR P Y o t n Fc F) (hA : ∀ i, A i < 65536) (hC : ∀ i, C i < 65536) (hsl : sl < 2) (hc : cR P Y o t n Fc sl ro A) : ∃ N, N ≤ 192 ∧ endC P Y o t n Fc N ∧ (satR sl o t n P Y Fc A C ro).2.2 = N ∧ ∀ p, p < P → ∀ y, y < Y → (satR sl o t n P Y Fc A C ro).1 (p + 4 * y) = iA o t n P Y Fc N (p + 4 * y) := by
  have hlt := satR_lt (sl := sl) (o := o) (t := t) (n := n) (P := P) (Y := Y) (F := Fc) (ro := ro) hA hC
  rcases Nat.eq_zero_or_pos sl with h0 | h0
  · subst h0
    obtain ⟨N, h1, h2, h3, h4⟩ := hc rfl
    exact ⟨N, h1, h2, h3, h4⟩
  · have h1 : sl = 1 := by omega
    subst h1
    obtain ⟨N, hN, hE⟩ := ends (B := fun _ => 0) hg (fun _ => Nat.le_of_ble_eq_true rfl)
    have hz : ∀ i : Nat, (fun _ : Nat => 0) i < 65536 := fun _ => Nat.le_of_ble_eq_true rfl
    obtain ⟨g1, g2⟩ := sat_all (B := fun _ => 0) (C := bgZ C 16) hg hA (bgZ_lt hC) hz hE (by omega)
    have e1 : satR 1 o t n P Y Fc A C ro = satL o t n P Y Fc 256 (bgA t P A Y 0) (bgZ C 16) 0 := if_pos rfl
    rw [e1] at hlt ⊢
    refine ⟨N, hN, (endC_at hg hz).mpr hE, g2, fun p hp y hy => ?_⟩
    exact upR_fun (hlt.1 _) (iA_lt N _) (g1 p hp y hy).1 ((iA_fam hg hz N) p hp y hy).1
theorem famR_of {P Y : Nat} {A A' B : Nat → Nat} (h : famR P Y A B) (e : ∀ p, p < P → ∀ y, y < Y → A' (p + 4 * y) = A (p + 4 * y)) : famR P Y A' B := by
  intro p hp y hy
  rw [e p hp y hy]
  exact h p hp y hy
end Rel3
