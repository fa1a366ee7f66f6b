/-! bytes of a long -/
def m_by (ch i : Int) : Int := ch / 2 ^ (8 * i).toNat % 256
theorem m_by_rg (ch i : Int) : 0 ≤ m_by ch i ∧ m_by ch i ≤ 255 := by
  unfold m_by
  omega
theorem qL_bv (z : Int) : (qL z).toBitVec = BitVec.ofInt 64 z := rfl
theorem qI_bv (z : Int) : (qI z).toBitVec = BitVec.ofInt 32 z := rfl
theorem qL_sshr {z : Int} (hz : -9223372036854775808 ≤ z ∧ z ≤ 9223372036854775807) (k : Nat) (hk : k < 64) (s : Int64) (hs : s.toBitVec.smod 64 = BitVec.ofNat 64 k) : qL z >>> s = qL (z / 2 ^ k) := by
  have hd : -9223372036854775808 ≤ z / 2 ^ k ∧ z / 2 ^ k ≤ 9223372036854775807 := by
    have hp : (0 : Int) < 2 ^ k := Int.pow_pos (by decide)
    constructor
    · rw [Int.le_ediv_iff_mul_le hp]
      have h1 : (1 : Int) ≤ 2 ^ k := hp
      have h2 : -9223372036854775808 * 2 ^ k ≤ -9223372036854775808 * (1 : Int) := by
        have := Int.mul_le_mul_of_nonneg_left (c := 9223372036854775808) h1 (by decide)
        omega
      omega
    · by_cases h0 : 0 ≤ z
      · have := Int.ediv_le_self (2 ^ k) h0
        omega
      · have : z / 2 ^ k < 0 := Int.ediv_neg_of_neg_of_pos (by omega) hp
        omega
  apply Int64.toBitVec_inj.mp
  rw [Int64.toBitVec_shiftRight, hs]
  apply BitVec.toInt_inj.mp
  rw [BitVec.sshiftRight', BitVec.toInt_sshiftRight]
  have h1 : (qL z).toBitVec.toInt = z := qL_int hz
  have h2 : (qL (z / 2 ^ k)).toBitVec.toInt = z / 2 ^ k := qL_int hd
  rw [h1, h2, Int.shiftRight_eq_div_pow, BitVec.toNat_ofNat, Nat.mod_eq_of_lt (by omega)]
  norm_cast
theorem qL_and255 (a : Int) : qL a &&& 255 = qL (a % 256) := by
  apply Int64.toBitVec_inj.mp
  rw [Int64.toBitVec_and, qL_bv, qL_bv]
  apply BitVec.eq_of_toNat_eq
  rw [BitVec.toNat_and, BitVec.toNat_ofInt, BitVec.toNat_ofInt]
  show _ &&& 255 = _
  rw [show (255 : Nat) = 2 ^ 8 - 1 from rfl, Nat.and_two_pow_sub_one_eq_mod]
  omega
theorem qI_and255 (a : Int) : qI a &&& 255 = qI (a % 256) := by
  apply Int32.toBitVec_inj.mp
  rw [Int32.toBitVec_and, qI_bv, qI_bv]
  apply BitVec.eq_of_toNat_eq
  rw [BitVec.toNat_and, BitVec.toNat_ofInt, BitVec.toNat_ofInt]
  show _ &&& 255 = _
  rw [show (255 : Nat) = 2 ^ 8 - 1 from rfl, Nat.and_two_pow_sub_one_eq_mod]
  omega
theorem m_by_D {z : Int} (hz : -9223372036854775808 ≤ z ∧ z ≤ 9223372036854775807) {i : Int} (hi : 0 ≤ i ∧ i ≤ 7) : qL z >>> ((qI (8 * i)).toInt64 &&& 63) = qL (z / 2 ^ (8 * i).toNat) := by
  rcases (show i = 0 ∨ i = 1 ∨ i = 2 ∨ i = 3 ∨ i = 4 ∨ i = 5 ∨ i = 6 ∨ i = 7 by omega) with rfl | rfl | rfl | rfl | rfl | rfl | rfl | rfl <;> exact qL_sshr hz _ (by decide) _ (by decide)
theorem qL_ushr {z : Int} (k : Nat) (s : UInt64) (hs : s.toBitVec.toNat % 64 = k) : ((qL z).toUInt64 >>> s).toInt64 = qL (z % 18446744073709551616 / 2 ^ k) := by
  apply Int64.toBitVec_inj.mp
  show ((qL z).toUInt64 >>> s).toBitVec = _
  apply BitVec.eq_of_toNat_eq
  show (((qL z).toBitVec) >>> (s.toBitVec % 64)).toNat = _
  rw [qL_bv, qL_bv, BitVec.toNat_ofInt]
  rw [show BitVec.ofInt 64 z >>> (s.toBitVec % 64) = BitVec.ofInt 64 z >>> (s.toBitVec % 64).toNat from rfl, BitVec.toNat_ushiftRight, BitVec.toNat_ofInt, BitVec.toNat_umod, Nat.shiftRight_eq_div_pow]
  have h1 : s.toBitVec.toNat % (64 : BitVec 64).toNat = k := hs
  rw [h1]
  have h2 : 0 ≤ z % 18446744073709551616 := Int.emod_nonneg _ (by decide)
  have h3 : z % 18446744073709551616 < 18446744073709551616 := Int.emod_lt_of_pos _ (by decide)
  obtain ⟨w, hw⟩ := Int.eq_ofNat_of_zero_le h2
  have h5 : z % ((2 ^ 64 : Nat) : Int) = (w : Int) := hw
  rw [h5, hw]
  have h6 : ((w : Int) / 2 ^ k) = ((w / 2 ^ k : Nat) : Int) := by norm_cast
  rw [h6]
  have h7 : w / 2 ^ k ≤ w := Nat.div_le_self _ _
  have h8 : (w : Int) < 18446744073709551616 := by omega
  rw [Int.toNat_natCast]
  generalize w / 2 ^ k = q at h7 ⊢
  omega
theorem m_by_C {z : Int} {i : Int} (hi : 0 ≤ i ∧ i ≤ 7) : ((qL z).toUInt64 >>> ((qI (8 * i)).toInt64.toUInt64 &&& Int64.toUInt64 63)).toInt64 = qL (z % 18446744073709551616 / 2 ^ (8 * i).toNat) := by
  rcases (show i = 0 ∨ i = 1 ∨ i = 2 ∨ i = 3 ∨ i = 4 ∨ i = 5 ∨ i = 6 ∨ i = 7 by omega) with rfl | rfl | rfl | rfl | rfl | rfl | rfl | rfl <;> exact qL_ushr _ _ (by decide)
theorem m_by_eq {z i : Int} (hi : 0 ≤ i ∧ i ≤ 7) : z % 18446744073709551616 / 2 ^ (8 * i).toNat % 256 = m_by z i := by
  unfold m_by
  rcases (show i = 0 ∨ i = 1 ∨ i = 2 ∨ i = 3 ∨ i = 4 ∨ i = 5 ∨ i = 6 ∨ i = 7 by omega) with rfl | rfl | rfl | rfl | rfl | rfl | rfl | rfl
  · show z % 18446744073709551616 / 1 % 256 = z / 1 % 256; omega
  · show z % 18446744073709551616 / 256 % 256 = z / 256 % 256; omega
  · show z % 18446744073709551616 / 65536 % 256 = z / 65536 % 256; omega
  · show z % 18446744073709551616 / 16777216 % 256 = z / 16777216 % 256; omega
  · show z % 18446744073709551616 / 4294967296 % 256 = z / 4294967296 % 256; omega
  · show z % 18446744073709551616 / 1099511627776 % 256 = z / 1099511627776 % 256; omega
  · show z % 18446744073709551616 / 281474976710656 % 256 = z / 281474976710656 % 256; omega
  · show z % 18446744073709551616 / 72057594037927936 % 256 = z / 72057594037927936 % 256; omega
/-- the first i bytes are characters -/
def m_rt (ch i : Int) : Prop := ∀ k, 0 ≤ k → k < i → 32 ≤ m_by ch k ∧ m_by ch k ≤ 126
def m_rb (ch n : Int) : Prop := ∃ k, 0 ≤ k ∧ k < n ∧ ¬ (32 ≤ m_by ch k ∧ m_by ch k ≤ 126)
theorem m_rt_0 (ch : Int) : m_rt ch 0 := fun k a b => by omega
theorem m_rt_s {ch i : Int} (h : m_rt ch i) (h2 : 32 ≤ m_by ch i ∧ m_by ch i ≤ 126) : m_rt ch (i + 1) := fun k a b => by
  by_cases hk : k = i
  · rw [hk]
    exact h2
  · exact h k a (by omega)
theorem m_rb_n {ch n : Int} (h : m_rb ch n) : ¬ m_rt ch n := by
  obtain ⟨k, a, b, c⟩ := h
  exact fun q => c (q k a b)
theorem m_rb_i {ch n i : Int} (h0 : 0 ≤ i ∧ i < n) (h : ¬ (32 ≤ m_by ch i ∧ m_by ch i ≤ 126)) : m_rb ch n := ⟨i, h0.1, h0.2, h⟩
/-- a text with j of n bytes written behind it -/
def m_tx (x : Int → Int) (sz ch n j : Int) : Int → Int := fun i => if sz ≤ i ∧ i < sz + j then m_by ch (n - 1 - (i - sz)) else x i
theorem m_tx_0 (x : Int → Int) (sz ch n : Int) : m_tx x sz ch n 0 = x := by
  funext i
  unfold m_tx
  rw [if_neg (by omega)]
theorem m_tx_s {x : Int → Int} {sz ch n j : Int} (h : 0 ≤ j) : qU (m_tx x sz ch n j) (sz + j) (m_by ch (n - 1 - j)) = m_tx x sz ch n (j + 1) := by
  funext i
  unfold qU m_tx
  by_cases hi : i = sz + j
  · rw [if_pos hi, if_pos (by omega), show n - 1 - (i - sz) = n - 1 - j by omega]
  · rw [if_neg hi]
    by_cases h2 : sz ≤ i ∧ i < sz + j
    · rw [if_pos h2, if_pos (by omega)]
    · rw [if_neg h2, if_neg (by omega)]
theorem m_tx_rg {x : Int → Int} {sz ch n : Int} (h : ∀ i, 0 ≤ x i ∧ x i ≤ 126) (hr : m_rt ch n) : ∀ i, 0 ≤ m_tx x sz ch n n i ∧ m_tx x sz ch n n i ≤ 126 := by
  intro i
  unfold m_tx
  by_cases h2 : sz ≤ i ∧ i < sz + n
  · rw [if_pos h2]
    have := hr (n - 1 - (i - sz)) (by omega) (by omega)
    omega
  · rw [if_neg h2]
    exact h i
