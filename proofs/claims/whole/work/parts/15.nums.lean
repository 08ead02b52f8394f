/-! Numbers: the bits of small numbers, rules as numbers, stacks as numbers -/
section Nums
def bt (m i : Nat) : Nat := (m.testBit i).toNat
theorem bt_lt (m i : Nat) : bt m i < 2 := by unfold bt; cases m.testBit i <;> decide
theorem bt_eq (m i : Nat) : bt m i = m / 2 ^ i % 2 := by unfold bt; exact Nat.toNat_testBit m i
theorem bt_t {m i : Nat} (h : m.testBit i = true) : bt m i = 1 := by unfold bt; rw [h]; rfl
theorem bt_f {m i : Nat} (h : m.testBit i = false) : bt m i = 0 := by unfold bt; rw [h]; rfl
theorem bt_1 {m i : Nat} : bt m i = 1 ↔ m.testBit i = true := by unfold bt; cases m.testBit i <;> decide
theorem bt_0 {m i : Nat} : bt m i = 0 ↔ m.testBit i = false := by unfold bt; cases m.testBit i <;> decide
theorem b_sh31 : ∀ i : Nat, i < 31 → ((nI i &&& 31).toBitVec.smod 32).toNat = i := by decide +kernel
theorem b_bit {m i : Nat} (hm : m < 2 ^ 31) (hi : i < 31) : (nI m >>> (nI i &&& 31)) &&& nI 1 = nI (bt m i) := by
  rw [pk_shrN hm (nI i &&& 31) i (b_sh31 i hi), pk_andN (k := 1) (Nat.lt_of_le_of_lt (Nat.div_le_self _ _) (by omega)) (by decide), bt_eq]
theorem b_has {m i : Nat} (hm : m < 2 ^ 31) (hi : i < 31) : (nI m >>> (nI i &&& 31)) &&& nI 1 = nI 1 ↔ bt m i = 1 := by
  rw [b_bit hm hi]
  exact nI_eq (by have := bt_lt m i; omega) (by decide)
def wbit (m i b : Nat) : Nat := if b = 1 then m ||| (1 <<< i) else m &&& (15 ^^^ (1 <<< i))
theorem b_wset : ∀ m : Nat, m < 16 → ∀ i : Nat, i < 4 → nI m ||| (nI 1 <<< (nI i &&& 31)) = nI (wbit m i 1) := by decide +kernel
theorem b_wclr : ∀ m : Nat, m < 16 → ∀ i : Nat, i < 4 → nI m &&& ((nI 1 <<< (nI i &&& 31)) ^^^ (-1)) = nI (wbit m i 0) := by decide +kernel
theorem wbit_lt : ∀ m : Nat, m < 16 → ∀ i : Nat, i < 4 → ∀ b : Nat, b < 2 → wbit m i b < 16 := by decide +kernel
theorem wbit_bit : ∀ m : Nat, m < 16 → ∀ i : Nat, i < 4 → ∀ b : Nat, b < 2 → ∀ j : Nat, j < 4 → bt (wbit m i b) j = if j = i then b else bt m j := by decide +kernel
theorem b_pair : ∀ p : Nat, p < 4 → ∀ y : Nat, y < 4 → (nI p &&& nI 3) ||| ((nI y &&& nI 3) <<< (nI 2 &&& 31)) = nI (p + 4 * y) := by decide +kernel
def rcode (a b c u v : Nat) : Nat := a + 4 * b + 16 * c + 64 * u + 256 * v
theorem b_rcode : ∀ a : Nat, a < 4 → ∀ b : Nat, b < 4 → ∀ c : Nat, c < 4 → ∀ u : Nat, u < 4 → ∀ v : Nat, v < 4 → ((((nI a ||| (nI b <<< (nI 2 &&& 31))) ||| (nI c <<< (nI 4 &&& 31))) ||| (((nI u - nI 1) + nI 1) <<< (nI 6 &&& 31))) ||| (((nI v - nI 1) + nI 1) <<< (nI 8 &&& 31))) = nI (rcode a b c u v) := by decide +kernel
theorem b_and3 {k : Nat} (hk : k < 1024) : nI k &&& nI 3 = nI (k % 4) := pk_andN (k := 2) (by omega) (by decide)
theorem b_and15 {k : Nat} (hk : k < 1024) : nI k &&& nI 15 = nI (k % 16) := pk_andN (k := 4) (by omega) (by decide)
theorem b_top {k : Nat} (hk : k < 1024) : (nI k >>> (nI 2 &&& 31)) &&& nI 3 = nI (k / 4 % 4) := by
  rw [pk_shrN (by omega) (nI 2 &&& 31) 2 (by decide), pk_andN (k := 2) (by omega) (by decide)]
theorem b_next {k : Nat} (hk : k < 1024) : (nI k >>> (nI 4 &&& 31)) &&& nI 3 = nI (k / 16 % 4) := by
  rw [pk_shrN (by omega) (nI 4 &&& 31) 4 (by decide), pk_andN (k := 2) (by omega) (by decide)]
theorem b_upper {k : Nat} (hk : k < 1024) : (nI k >>> (nI 6 &&& 31)) &&& nI 3 = nI (k / 64 % 4) := by
  rw [pk_shrN (by omega) (nI 6 &&& 31) 6 (by decide), pk_andN (k := 2) (by omega) (by decide)]
theorem b_lower {k : Nat} (hk : k < 1024) : (nI k >>> (nI 8 &&& 31)) &&& nI 3 = nI (k / 256 % 4) := by
  rw [pk_shrN (by omega) (nI 8 &&& 31) 8 (by decide), pk_andN (k := 2) (by omega) (by decide)]
theorem lN_bv (S : Nat) : (lN S).toBitVec = BitVec.ofNat 64 S := rfl
theorem b_lushr {S d : Nat} (hS : S < 2 ^ 62) (hd : d < 24) : ((lN S).toUInt64 >>> ((nI (2 * d)).toInt64.toUInt64 &&& Int64.toUInt64 63)).toInt64 = lN (S / 4 ^ d) := by
  have hsh : ∀ d : Nat, d < 24 → ((nI (2 * d)).toInt64.toUInt64 &&& Int64.toUInt64 63).toNat = 2 * d := by decide +kernel
  have h1 : ((lN S).toUInt64 >>> ((nI (2 * d)).toInt64.toUInt64 &&& Int64.toUInt64 63)) = UInt64.ofNat (S / 4 ^ d) := by
    apply UInt64.toNat_inj.mp
    rw [UInt64.toNat_shiftRight, hsh d hd]
    have h2 : (lN S).toUInt64.toNat = S := by
      show (BitVec.ofNat 64 S).toNat = S
      rw [BitVec.toNat_ofNat, Nat.mod_eq_of_lt (by omega)]
    have h3 : S / 4 ^ d < 2 ^ 64 := Nat.lt_of_le_of_lt (Nat.div_le_self _ _) (by omega)
    have h4 : (UInt64.ofNat (S / 4 ^ d)).toNat = S / 4 ^ d := by
      show (BitVec.ofNat 64 (S / 4 ^ d)).toNat = _
      rw [BitVec.toNat_ofNat, Nat.mod_eq_of_lt h3]
    have h5 : 2 ^ (2 * d) = 4 ^ d := by rw [Nat.pow_mul]
    rw [h2, Nat.mod_eq_of_lt (by omega : 2 * d < 64), Nat.shiftRight_eq_div_pow, h4, h5]
  rw [h1]
  rfl
theorem b_l2i {S : Nat} : (lN S).toInt32 &&& nI 3 = nI (S % 4) := by
  rw [lN_i]
  have h := pk_and (nI S) (m := nI 3) 2 (by decide)
  rw [h]
  have h2 : (nI S).toBitVec.toNat = S % 2 ^ 32 := by
    show (BitVec.ofNat 32 S).toNat = _
    rw [BitVec.toNat_ofNat]
  rw [h2]
  congr 1
  omega
theorem b_push {S y : Nat} (hS : S < 2 ^ 60) (hy : y < 4) : ((lN S) <<< ((nI 2).toInt64 &&& 63)) ||| (nI y).toInt64 = lN (4 * S + y) := by
  have hs : ∀ y : Nat, y < 4 → (nI y).toInt64 = lN y := by decide +kernel
  rw [hs y hy]
  apply Int64.toBitVec_inj.mp
  have h1 : ((lN S) <<< ((nI 2).toInt64 &&& 63)).toBitVec = (BitVec.ofNat 64 S) <<< 2 := by
    show (BitVec.ofNat 64 S) <<< (((nI 2).toInt64 &&& 63).toBitVec.smod 64) = _
    rw [show (((nI 2).toInt64 &&& 63).toBitVec.smod 64) = (2 : BitVec 64) by decide +kernel]
    rfl
  show ((lN S) <<< ((nI 2).toInt64 &&& 63)).toBitVec ||| (BitVec.ofNat 64 y) = BitVec.ofNat 64 (4 * S + y)
  rw [h1]
  apply BitVec.eq_of_toNat_eq
  rw [BitVec.toNat_or, BitVec.toNat_shiftLeft, BitVec.toNat_ofNat, BitVec.toNat_ofNat, BitVec.toNat_ofNat, Nat.mod_eq_of_lt (by omega : S < 2 ^ 64), Nat.mod_eq_of_lt (by omega : y < 2 ^ 64), Nat.mod_eq_of_lt (by omega : 4 * S + y < 2 ^ 64), Nat.shiftLeft_eq, Nat.mod_eq_of_lt (by omega : S * 2 ^ 2 < 2 ^ 64)]
  have h3 := Nat.two_pow_add_eq_or_of_lt (i := 2) (b := y) (by omega) S
  rw [Nat.mul_comm S, ← h3]
theorem b_shr2 {S : Nat} (hS : S < 2 ^ 62) : ((lN S).toUInt64 >>> ((nI 2).toInt64.toUInt64 &&& Int64.toUInt64 63)).toInt64 = lN (S / 4) := by
  have h := b_lushr (d := 1) hS (by decide)
  simpa using h
def b2n (b : Bool) : Nat := if b then 1 else 0
theorem b2n_lt (b : Bool) : b2n b < 2 := by cases b <;> decide
end Nums
