/-! The rounds end: below 193 of them -/
section Pure6
def leA (A A' : Nat → Nat) : Prop := ∀ i U, U < 16 → (A i).testBit U = true → (A' i).testBit U = true
theorem cmF_mono {A A' : Nat → Nat} (h : leA A A') {s y U : Nat} (hU : U < 16) (h1 : (cmF A s y 4).testBit U = true) : (cmF A' s y 4).testBit U = true := by
  rw [cmF_bit A' s y U hU]
  rw [cmF_bit A s y U hU] at h1
  exact fun v hv hs => h _ U hU (h1 v hv hs)
theorem yB_mono {A A' : Nat → Nat} (h : leA A A') {t k U : Nat} (hU : U < 16) (h1 : (yB t A k).testBit U = true) : (yB t A' k).testBit U = true := by
  unfold yB at h1 ⊢
  by_cases c1 : bt t (k / 16 % 4) = 1
  · rw [if_pos c1] at h1 ⊢; exact h1
  · rw [if_neg c1] at h1 ⊢
    by_cases c2 : k / 64 % 4 = 0
    · rw [if_pos c2] at h1 ⊢; exact h1
    · rw [if_neg c2] at h1 ⊢
      by_cases c3 : k / 256 % 4 = 0
      · rw [if_pos c3] at h1 ⊢; exact h _ U hU h1
      · rw [if_neg c3] at h1 ⊢
        rw [yL_bit] at h1 ⊢
        obtain ⟨s, g1, g2, g3⟩ := h1
        exact ⟨s, g1, h _ s g1 g2, cmF_mono h hU g3⟩
theorem fAny_mono {A A' F : Nat → Nat} (h : leA A A') {t pr U : Nat} (hU : U < 16) : ∀ r, (fAny t A F pr r).testBit U = true → (fAny t A' F pr r).testBit U = true
  | 0, h1 => h1
  | r + 1, h1 => by
    unfold fAny at h1 ⊢
    by_cases c : F r % 16 = pr
    · rw [if_pos c, Nat.testBit_or, Bool.or_eq_true] at h1 ⊢
      rcases h1 with h1 | h1
      · exact Or.inl (fAny_mono h hU r h1)
      · exact Or.inr (yB_mono h hU h1)
    · rw [if_neg c] at h1 ⊢; exact fAny_mono h hU r h1
theorem fAll_mono {A A' F : Nat → Nat} (h : leA A A') {t pr U : Nat} (hU : U < 16) : ∀ r, (fAll t A F pr r).testBit U = true → (fAll t A' F pr r).testBit U = true
  | 0, h1 => h1
  | r + 1, h1 => by
    unfold fAll at h1 ⊢
    by_cases c : F r % 16 = pr
    · rw [if_pos c, Nat.testBit_and, Bool.and_eq_true] at h1 ⊢
      exact ⟨fAll_mono h hU r h1.1, yB_mono h hU h1.2⟩
    · rw [if_neg c] at h1 ⊢; exact fAll_mono h hU r h1
theorem fNx_mono {A A' F : Nat → Nat} (h : leA A A') {o t n p pr U : Nat} (hU : U < 16) (h1 : (fNx o t n A F p pr).testBit U = true) : (fNx o t n A' F p pr).testBit U = true := by
  unfold fNx at h1 ⊢
  by_cases c1 : bt t p = 1
  · rw [if_pos c1] at h1 ⊢; exact h1
  · rw [if_neg c1] at h1 ⊢
    by_cases c2 : bt o p = 1
    · rw [if_pos c2] at h1 ⊢
      by_cases c3 : fHas F pr n = 0
      · rw [if_pos c3] at h1 ⊢; exact h1
      · rw [if_neg c3] at h1 ⊢; exact fAll_mono h hU n h1
    · rw [if_neg c2] at h1 ⊢; exact fAny_mono h hU n h1
/-- the rounds with nothing outside the pairs -/
def iA (o t n P Y : Nat) (Fc : Nat → Nat) : Nat → (Nat → Nat)
  | 0 => bgA t P (fun _ => 0) Y 0
  | k + 1 => cmg o t n P (iA o t n P Y Fc k) (fun _ => 0) Fc Y 0
theorem iA_lt {o t n P Y : Nat} {Fc : Nat → Nat} : ∀ k i, iA o t n P Y Fc k i < 65536
  | 0 => bgA_lt (fun _ => Nat.le_of_ble_eq_true rfl)
  | k + 1 => cmg_lt (iA_lt k) (fun _ => Nat.le_of_ble_eq_true rfl)
theorem iA_mono {o t n P Y : Nat} {Fc : Nat → Nat} : ∀ k, leA (iA o t n P Y Fc k) (iA o t n P Y Fc (k + 1))
  | 0 => by
    intro i U hU h1
    show (cmg o t n P (iA o t n P Y Fc 0) (fun _ => 0) Fc Y 0 i).testBit U = true
    have h2 : (bgA t P (fun _ => 0) Y 0 i).testBit U = true := h1
    unfold bgA at h2
    by_cases c0 : i < 16
    · rw [if_pos c0] at h2
      by_cases c : ((i / 4 < Y ∨ (i / 4 = Y ∧ i % 4 < 0)) ∧ i % 4 < P) ∧ bt t (i % 4) = 1
      · unfold cmg
        rw [if_pos c.1]
        unfold fNx
        rw [if_pos c.2]
        exact all16 U hU
      · rw [if_neg c, Nat.zero_testBit] at h2; cases h2
    · rw [if_neg c0, Nat.zero_testBit] at h2; cases h2
  | k + 1 => by
    intro i U hU h1
    have ih := iA_mono (o := o) (t := t) (n := n) (P := P) (Y := Y) (Fc := Fc) k
    have h2 : (cmg o t n P (iA o t n P Y Fc k) (fun _ => 0) Fc Y 0 i).testBit U = true := h1
    show (cmg o t n P (iA o t n P Y Fc (k + 1)) (fun _ => 0) Fc Y 0 i).testBit U = true
    unfold cmg at h2 ⊢
    by_cases c : (i / 4 < Y ∨ (i / 4 = Y ∧ i % 4 < 0)) ∧ i % 4 < P
    · rw [if_pos c] at h2 ⊢; exact fNx_mono ih hU h2
    · rw [if_neg c] at h2 ⊢; exact h2
theorem iA_fam {P Y o t n : Nat} {Fc F B : Nat → Nat} (hg : gmR P Y o t n Fc F) (hB : ∀ i, B i < 65536) : ∀ k, famR P Y (iA o t n P Y Fc k) (gB F (bgM F B 12) k)
  | 0 => fam_begin hg.1 hg.2.1 hg.2.2.1 hg.2.2.2.2.2.1
  | k + 1 => by
    have ih := iA_fam hg hB k
    obtain ⟨hP, hY, h0, h1, h2, h3, h4, hr⟩ := id hg
    intro p hp y hy
    obtain ⟨k1, k2, k3⟩ := nx_up hP hp hy hY hr h3 h2 h4 ih
    have e1 : gB F (bgM F B 12) (k + 1) (3 * p + y) = ftM F (gB F (bgM F B 12) k) p y := by
      show stM F (gB F (bgM F B 12) k) (F 0) 0 (3 * p + y) = _
      unfold stM
      rw [if_pos (by omega), show (3 * p + y) / 3 = p by omega, show (3 * p + y) % 3 = y by omega]
    have e2 : iA o t n P Y Fc (k + 1) (p + 4 * y) = fNx o t n (iA o t n P Y Fc k) Fc p (p + 4 * y) := by
      show cmg o t n P (iA o t n P Y Fc k) (fun _ => 0) Fc Y 0 (p + 4 * y) = _
      unfold cmg
      rw [if_pos (by omega), show (p + 4 * y) % 4 = p by omega]
    rw [e1, e2]
    exact ⟨k1, k2, k3⟩
theorem fc_mono {x x' : Nat} (h : ∀ U, U < 16 → x.testBit U = true → x'.testBit U = true) : ∀ n, n ≤ 16 → fcC x n ≤ fcC x' n
  | 0, _ => Nat.le_refl _
  | n + 1, hn => by
    have ih := fc_mono h n (by omega)
    unfold fcC
    have h1 : bt x n ≤ bt x' n := by
      cases hx : x.testBit n
      · rw [bt_f hx]; exact Nat.zero_le _
      · rw [bt_t hx, bt_t (h n (by omega) hx)]; exact Nat.le_refl _
    omega
theorem fc_strict {x x' W : Nat} (h : ∀ U, U < 16 → x.testBit U = true → x'.testBit U = true) (hx : x.testBit W = false) (hx' : x'.testBit W = true) : ∀ n, n ≤ 16 → W < n → fcC x n < fcC x' n
  | 0, _, hW => absurd hW (Nat.not_lt_zero _)
  | n + 1, hn, hW => by
    unfold fcC
    by_cases hw : W = n
    · subst hw
      have ih := fc_mono h W (by omega)
      rw [bt_f hx, bt_t hx']
      omega
    · have ih := fc_strict h hx hx' n (by omega) (by omega)
      have h1 : bt x n ≤ bt x' n := by
        cases hx : x.testBit n
        · rw [bt_f hx]; exact Nat.zero_le _
        · rw [bt_t hx, bt_t (h n (by omega) hx)]; exact Nat.le_refl _
      omega
def cnA (A : Nat → Nat) : Nat → Nat
  | 0 => 0
  | i + 1 => cnA A i + fcC (A i) 16
theorem cnA_le (A : Nat → Nat) : ∀ i, cnA A i ≤ 16 * i
  | 0 => Nat.le_refl _
  | i + 1 => by
    have h1 := cnA_le A i
    have h2 := fcC_le (A i) 16
    unfold cnA
    omega
theorem cnA_mono {A A' : Nat → Nat} (h : leA A A') : ∀ i, cnA A i ≤ cnA A' i
  | 0 => Nat.le_refl _
  | i + 1 => by
    have h1 := cnA_mono h i
    have h2 := fc_mono (h i) 16 (Nat.le_refl _)
    unfold cnA
    omega
theorem cnA_strict {A A' : Nat → Nat} (h : leA A A') {j : Nat} (hj : fcC (A j) 16 < fcC (A' j) 16) : ∀ i, j < i → cnA A i < cnA A' i
  | 0, hi => absurd hi (Nat.not_lt_zero _)
  | i + 1, hi => by
    unfold cnA
    by_cases hz : j = i
    · subst hz
      have h1 := cnA_mono h j
      omega
    · have h1 := cnA_strict h hj i (by omega)
      have h2 := fc_mono (h i) 16 (Nat.le_refl _)
      omega
theorem iA_grow {P Y o t n : Nat} {Fc : Nat → Nat} (hP : P ≤ 4) (hY : Y ≤ 3) {k : Nat} (hc : chg o t n P (iA o t n P Y Fc k) Fc Y 0 = true) : cnA (iA o t n P Y Fc k) 12 < cnA (iA o t n P Y Fc (k + 1)) 12 := by
  obtain ⟨i, h1, h2, h3⟩ := chg_iff.mp hc
  have hm := iA_mono (o := o) (t := t) (n := n) (P := P) (Y := Y) (Fc := Fc) k
  have e2 : iA o t n P Y Fc (k + 1) i = fNx o t n (iA o t n P Y Fc k) Fc (i % 4) i := by
    show cmg o t n P (iA o t n P Y Fc k) (fun _ => 0) Fc Y 0 i = _
    unfold cmg
    rw [if_pos h2]
  rw [← e2] at h3
  have hex : ∃ W, W < 16 ∧ (iA o t n P Y Fc k i).testBit W = false ∧ (iA o t n P Y Fc (k + 1) i).testBit W = true := by
    refine Classical.byContradiction (fun hn => h3 ?_)
    apply Nat.eq_of_testBit_eq
    intro W
    by_cases hW : W < 16
    · rw [Bool.eq_iff_iff]
      constructor
      · intro hz
        cases hy : (iA o t n P Y Fc k i).testBit W
        · exact absurd ⟨W, hW, hy, hz⟩ hn
        · rfl
      · exact hm i W hW
    · rw [tb_hi (iA_lt (k + 1) i) (by omega), tb_hi (iA_lt k i) (by omega)]
  obtain ⟨W, w1, w2, w3⟩ := hex
  exact cnA_strict hm (fc_strict (hm i) w2 w3 16 (Nat.le_refl _) w1) 12 (by omega)
theorem ends {P Y o t n : Nat} {Fc F B : Nat → Nat} (hg : gmR P Y o t n Fc F) (hB : ∀ i, B i < 65536) : ∃ N, N ≤ 192 ∧ endsAt F (bgM F B 12) N := by
  obtain ⟨hP, hY, h0, h1, h2, h3, h4, hr⟩ := id hg
  have hru := gmR_ru hg
  have hch : ∀ k, chg o t n P (iA o t n P Y Fc k) Fc Y 0 = chM F (gB F (bgM F B 12) k) (F 0) 0 := fun k => ch_eq hP hY hr h0 h1 h3 h2 h4 (iA_lt k) (gB_lt hru (bgM_lt hB) k) hru (iA_fam hg hB k)
  have hgrow : ∀ m, (∀ k, k < m → chM F (gB F (bgM F B 12) k) (F 0) 0 = true) → m ≤ cnA (iA o t n P Y Fc m) 12 := by
    intro m
    induction m with
    | zero => intro _; exact Nat.zero_le _
    | succ m ih =>
      intro h
      have g1 := ih (fun k hk => h k (by omega))
      have g2 := iA_grow hP hY (k := m) (Fc := Fc) (o := o) (t := t) (n := n) (by rw [hch]; exact h m (by omega))
      omega
  have hex : ∃ k, k ≤ 192 ∧ chM F (gB F (bgM F B 12) k) (F 0) 0 = false := by
    refine Classical.byContradiction (fun hn => ?_)
    have h5 := hgrow 193 (fun k hk => by
      cases hz : chM F (gB F (bgM F B 12) k) (F 0) 0
      · exact absurd ⟨k, by omega, hz⟩ hn
      · rfl)
    have h6 := cnA_le (iA o t n P Y Fc 193) 12
    omega
  obtain ⟨k0, hk0, hz0⟩ := hex
  obtain ⟨N, hN, hmin⟩ := pk_least (fun k => chM F (gB F (bgM F B 12) k) (F 0) 0 = false) ⟨k0, hz0⟩
  refine ⟨N, ?_, ?_, hN⟩
  · rcases Nat.lt_or_ge k0 N with hz | hz
    · exact absurd hz0 (hmin k0 hz)
    · omega
  · intro k hk
    cases hz : chM F (gB F (bgM F B 12) k) (F 0) 0
    · exact absurd hz (hmin k hk)
    · rfl
end Pure6
