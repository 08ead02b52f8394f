section Rel4
/-- counts as plain numbers -/
def gyN (aa : Nat → Nat → Nat) (w s : Nat) (M : Nat → Nat) : Nat → (Nat → Nat)
  | 0 => M
  | y + 1 => updN (gyN aa w s M y) (aa s y) (gyN aa w s M y (aa s y) + w)
def gsN (aa : Nat → Nat → Nat) (c : Nat → Nat) (Y : Nat) : Nat → (Nat → Nat)
  | 0 => fun _ => 0
  | s + 1 => gyN aa (c s) s (gsN aa c Y s) Y
def sumN (f : Nat → Nat) : Nat → Nat
  | 0 => 0
  | n + 1 => sumN f n + f n
theorem sumN_le (f : Nat → Nat) {i : Nat} : ∀ n, i < n → f i ≤ sumN f n
  | 0, h => absurd h (Nat.not_lt_zero _)
  | n + 1, h => by
    unfold sumN
    rcases Nat.lt_or_ge i n with h1 | h1
    · have := sumN_le f n h1
      omega
    · rw [show i = n by omega]
      omega
theorem sumN_upd (f : Nat → Nat) (k w : Nat) : ∀ n, sumN (updN f k (f k + w)) n = sumN f n + (if k < n then w else 0)
  | 0 => by unfold sumN; rw [if_neg (by omega)]
  | n + 1 => by
    unfold sumN
    rw [sumN_upd f k w n]
    by_cases h : n = k
    · subst h
      rw [updN_s, if_neg (by omega), if_pos (by omega)]
      omega
    · rw [updN_n _ _ _ h]
      by_cases h2 : k < n
      · rw [if_pos h2, if_pos (by omega)]
        omega
      · rw [if_neg h2, if_neg (by omega)]
        omega
theorem gyN_sum {aa : Nat → Nat → Nat} {w s : Nat} {M : Nat → Nat} : ∀ y, (∀ y', y' < y → aa s y' < 16) → sumN (gyN aa w s M y) 16 = sumN M 16 + y * w
  | 0, _ => by unfold gyN; omega
  | y + 1, h => by
    unfold gyN
    rw [sumN_upd, gyN_sum y (fun y' hy => h y' (by omega)), if_pos (h y (by omega)), Nat.succ_mul]
    omega
theorem gsN_sum {aa : Nat → Nat → Nat} {c : Nat → Nat} {Y : Nat} : ∀ s, (∀ s', s' < s → ∀ y, y < Y → aa s' y < 16) → sumN (gsN aa c Y s) 16 = Y * sumN c s
  | 0, _ => by
    unfold gsN
    have h : ∀ n, sumN (fun _ => 0) n = 0 := fun n => by
      induction n with
      | zero => rfl
      | succ n ih => unfold sumN; rw [ih]
    rw [h]
    unfold sumN
    rfl
  | s + 1, h => by
    unfold gsN
    rw [gyN_sum Y (fun y' hy => h s (by omega) y' hy), gsN_sum s (fun s' hs => h s' (by omega))]
    conv => rhs; unfold sumN
    rw [Nat.mul_add]
theorem gyN_congr {aa aa' : Nat → Nat → Nat} {w s : Nat} {M : Nat → Nat} : ∀ y, (∀ y', y' < y → aa s y' = aa' s y') → gyN aa w s M y = gyN aa' w s M y
  | 0, _ => rfl
  | y + 1, h => by
    unfold gyN
    rw [gyN_congr y (fun y' hy => h y' (by omega)), h y (by omega)]
theorem gsN_congr {aa aa' : Nat → Nat → Nat} {c c' : Nat → Nat} {Y : Nat} : ∀ s, (∀ s', s' < s → ∀ y, y < Y → aa s' y = aa' s' y) → (∀ s', s' < s → c s' = c' s') → gsN aa c Y s = gsN aa' c' Y s
  | 0, _, _ => rfl
  | s + 1, h, h2 => by
    unfold gsN
    rw [gsN_congr s (fun s' hs => h s' (by omega)) (fun s' hs => h2 s' (by omega)), h2 s (by omega), gyN_congr Y (fun y' hy => h s (by omega) y' hy)]
theorem grY_lN {aa : Nat → Nat → Nat} {w s : Nat} {M : Nat → Int64} {N : Nat → Nat} (hM : ∀ i, i < 16 → M i = lN (N i)) : ∀ y, (∀ y', y' < y → aa s y' < 16) → ∀ i, i < 16 → grY aa (lN w) s M y i = lN (gyN aa w s N y i)
  | 0, _, i, hi => hM i hi
  | y + 1, h, i, hi => by
    have ih := grY_lN (w := w) hM y (fun y' hy => h y' (by omega))
    unfold grY gyN vp_updL updN
    by_cases hk : i = aa s y
    · rw [if_pos hk, if_pos hk, ih _ (h y (by omega)), lN_add]
    · rw [if_neg hk, if_neg hk]
      exact ih i hi
theorem gyN_0 {aa : Nat → Nat → Nat} {s : Nat} {M : Nat → Nat} : ∀ y, gyN aa 0 s M y = M
  | 0 => rfl
  | y + 1 => by
    unfold gyN
    rw [gyN_0 y]
    exact updN_id M _
theorem lN_z {c : Nat} (h : c < 2 ^ 63) : lN c = lN 0 ↔ c = 0 := by
  constructor
  · intro e
    have h1 := congrArg Int64.toInt e
    rw [show lN c = Int64.ofNat c from rfl, show lN 0 = Int64.ofNat 0 from rfl, Int64.toInt_ofNat_of_lt (by omega), Int64.toInt_ofNat_of_lt (by omega)] at h1
    omega
  · intro e
    rw [e]
theorem lN_le0 {c : Nat} (h : c < 2 ^ 63) : lN c ≤ lN 0 ↔ c = 0 := by
  rw [Int64.le_iff_toInt_le, show lN c = Int64.ofNat c from rfl, show lN 0 = Int64.ofNat 0 from rfl, Int64.toInt_ofNat_of_lt (by omega), Int64.toInt_ofNat_of_lt (by omega)]
  omega
theorem grS_lN {aa : Nat → Nat → Nat} {W M : Nat → Int64} {c : Nat → Nat} {Y : Nat} (hM : ∀ i, i < 16 → M i = lN 0) : ∀ s, s ≤ 16 → (∀ s', s' < s → W s' = lN (c s') ∧ c s' < 2 ^ 63) → (∀ s', s' < s → ∀ y, y < Y → aa s' y < 16) → ∀ i, i < 16 → grS aa W Y M s i = lN (gsN aa c Y s i)
  | 0, _, _, _, i, hi => hM i hi
  | s + 1, hs, hW, ha, i, hi => by
    have ih := grS_lN hM s (by omega) (fun s' h => hW s' (by omega)) (fun s' h => ha s' (by omega))
    obtain ⟨w1, w2⟩ := hW s (by omega)
    unfold grS gsN
    by_cases hz : c s = 0
    · rw [if_pos (by rw [w1, hz]), hz, gyN_0]
      exact ih i hi
    · rw [if_neg (by rw [w1]; exact fun e => hz ((lN_z w2).mp e)), w1]
      exact grY_lN ih Y (fun y' hy => ha s (by omega) y' hy) i hi
theorem mS_lN {aa : Nat → Nat → Nat} {W M : Nat → Int64} {c : Nat → Nat} {Y : Nat} (hM : ∀ i, i < 16 → M i = lN 0) : ∀ s, s ≤ 16 → (∀ s', s' < s → W s' = lN (c s') ∧ c s' < 2 ^ 63) → (∀ s', s' < s → ∀ y, y < Y → aa s' y < 16) → ∀ i, i < 16 → mS aa W Y M s i = lN (gsN aa c Y s i)
  | 0, _, _, _, i, hi => hM i hi
  | s + 1, hs, hW, ha, i, hi => by
    have ih := mS_lN hM s (by omega) (fun s' h => hW s' (by omega)) (fun s' h => ha s' (by omega))
    obtain ⟨w1, w2⟩ := hW s (by omega)
    unfold mS gsN grZ
    by_cases hz : c s = 0
    · rw [if_pos (by rw [w1]; exact (lN_le0 w2).mpr hz), hz, gyN_0]
      exact ih i hi
    · rw [if_neg (by rw [w1]; exact fun e => hz ((lN_le0 w2).mp e)), w1]
      exact grY_lN ih Y (fun y' hy => ha s (by omega) y' hy) i hi
def cN (aa : Nat → Nat → Nat) (t Y : Nat) : Nat → (Nat → Nat)
  | 0 => fun s => if s = t then 1 else 0
  | z + 1 => gsN aa (cN aa t Y z) Y 16
theorem cN_sum {aa : Nat → Nat → Nat} {t Y : Nat} (ht : t < 16) (ha : ∀ s, s < 16 → ∀ y, y < Y → aa s y < 16) : ∀ z, sumN (cN aa t Y z) 16 = Y ^ z
  | 0 => by
    have h : ∀ n, sumN (fun s => if s = t then 1 else 0) n = if t < n then 1 else 0 := fun n => by
      induction n with
      | zero => unfold sumN; rw [if_neg (by omega)]
      | succ n ih =>
        unfold sumN
        rw [ih]
        by_cases h1 : n = t
        · rw [if_pos h1, if_neg (by omega), if_pos (by omega)]
        · rw [if_neg h1]
          by_cases h2 : t < n
          · rw [if_pos h2, if_pos (by omega)]
          · rw [if_neg h2, if_neg (by omega)]
    unfold cN
    rw [h, if_pos ht, Nat.pow_zero]
  | z + 1 => by
    unfold cN
    rw [gsN_sum 16 ha, cN_sum ht ha z, Nat.pow_succ, Nat.mul_comm]
theorem fit_all {Y : Nat} (hY : 1 ≤ Y) : ∀ z, fitL Y z = true → Y ^ z ≤ MAXL
  | 0, _ => by rw [Nat.pow_zero]; exact Nat.le_of_ble_eq_true rfl
  | z + 1, h => by
    unfold fitL at h
    rw [Bool.and_eq_true, decide_eq_true_eq] at h
    exact fit_le hY h.2
theorem fit_dn {Y : Nat} {z : Nat} (h : fitL Y (z + 1) = true) : fitL Y z = true := by
  unfold fitL at h
  rw [Bool.and_eq_true] at h
  exact h.1
theorem zr16 {M : Nat → Int64} (i : Nat) (hi : i < 16) : zrL M 16 i = lN 0 := by
  unfold zrL
  rw [if_pos hi]
theorem ctW_lN {t P Y : Nat} {A : Nat → Nat} {W M : Nat → Int64} (ht : t < 16) (hP : P ≤ 4) (hY : 1 ≤ Y) : ∀ z, fitL Y z = true → ∀ i, i < 16 → (ctW t P Y A z (inL t W 16) M).1 i = lN (cN (aaF t P A) t Y z i)
  | 0, _, i, hi => by
    show inL t W 16 i = lN (if i = t then 1 else 0)
    unfold inL
    rw [if_pos hi]
    split <;> rfl
  | z + 1, hf, i, hi => by
    have ih := ctW_lN (W := W) (M := M) (A := A) ht hP hY z (fit_dn hf)
    have ha : ∀ s, s < 16 → ∀ y, y < Y → aaF t P A s y < 16 := fun s _ y _ => aaL_lt ht P hP
    have hs := cN_sum ht ha z
    have hm := fit_all hY z (fit_dn hf)
    show cpyL (grM t P Y A (ctW t P Y A z (inL t W 16) M).1 (ctW t P Y A z (inL t W 16) M).2) (ctW t P Y A z (inL t W 16) M).1 16 i = lN (gsN (aaF t P A) (cN (aaF t P A) t Y z) Y 16 i)
    unfold cpyL
    rw [if_pos hi]
    unfold grM
    exact grS_lN zr16 16 (Nat.le_refl _) (fun s' h => ⟨ih s' h, by
      have h1 := sumN_le (cN (aaF t P A) t Y z) 16 h
      have h2 : MAXL < 2 ^ 63 := by decide
      omega⟩) ha i hi
theorem ctM_lN {F B : Nat → Nat} {W M : Nat → Int64} {aa : Nat → Nat → Nat} {Y t : Nat} (h1 : F 1 = Y) (h3 : F 3 = t) (ht : t < 16) (hY : 1 ≤ Y) (he : ∀ s, s < 16 → ∀ y, y < Y → aa s y = aaM F B s y) (ha : ∀ s, s < 16 → ∀ y, y < Y → aa s y < 16) : ∀ z, fitL Y z = true → ∀ i, i < 16 → (ctM F B z (inL (F 3) W 16) M).1 i = lN (cN aa t Y z i)
  | 0, _, i, hi => by
    show inL (F 3) W 16 i = lN (if i = t then 1 else 0)
    unfold inL
    rw [if_pos hi, h3]
    split <;> rfl
  | z + 1, hf, i, hi => by
    have ih := ctM_lN (W := W) (M := M) (B := B) h1 h3 ht hY he ha z (fit_dn hf)
    have hs := cN_sum ht ha z
    have hm := fit_all hY z (fit_dn hf)
    show cpyL (mW1 F B (ctM F B z (inL (F 3) W 16) M).1 (ctM F B z (inL (F 3) W 16) M).2) (ctM F B z (inL (F 3) W 16) M).1 16 i = lN (gsN aa (cN aa t Y z) Y 16 i)
    unfold cpyL
    rw [if_pos hi]
    unfold mW1
    rw [h1, gsN_congr (aa' := aaM F B) (c' := cN aa t Y z) 16 he (fun _ _ => rfl)]
    exact mS_lN zr16 16 (Nat.le_refl _) (fun s' h => ⟨ih s' h, by
      have h1 := sumN_le (cN aa t Y z) 16 h
      have h2 : MAXL < 2 ^ 63 := by decide
      omega⟩) (fun s' h y hy => by rw [← he s' h y hy]; exact ha s' h y hy) i hi
theorem smL_congr {p : Nat} {W W' : Nat → Int64} : ∀ n, n ≤ 16 → (∀ i, i < n → W i = W' i) → smL p W n = smL p W' n
  | 0, _, _ => rfl
  | n + 1, h, e => by
    unfold smL
    rw [smL_congr n (by omega) (fun i hi => e i (by omega)), e n (by omega)]
theorem ws_eq {P Y o t n z p : Nat} {A B Fc F : Nat → Nat} {W M Wm Mm : Nat → Int64} (hg : gmR P Y o t n Fc F) (ht : t < 16) (hY : 1 ≤ Y) (hf : famR P Y A B) (hfit : fitL Y z = true) : smL p (ctW t P Y A z (inL t W 16) M).1 16 = smL p (ctM F B z (inL (F 3) Wm 16) Mm).1 16 := by
  obtain ⟨hP, hY3, e0, e1, e2, e3, e4, hr⟩ := id hg
  have ha : ∀ s, s < 16 → ∀ y, y < Y → aaF t P A s y < 16 := fun s _ y _ => aaL_lt ht P hP
  have he : ∀ s, s < 16 → ∀ y, y < Y → aaF t P A s y = aaM F B s y := fun s hs y hy => by
    unfold aaF aaM
    rw [e3, e0]
    exact acc_eq hP hf ht hy hs P (Nat.le_refl _)
  exact smL_congr 16 (Nat.le_refl _) (fun i hi => by rw [ctW_lN ht hP hY z hfit i hi, ctM_lN e1 e3 ht hY he ha z hfit i hi])
end Rel4
