/-! words and bits: pasted from kit/laws/BITS.to-paste (the family wb_), then bytes -/
theorem wb_tb (n : Nat) : (lN n).toBitVec = BitVec.ofNat 64 n := rfl
theorem wb_inj {a b : Int64} (h : a.toBitVec = b.toBitVec) : a = b := Int64.toBitVec_inj.mp h
theorem wb_tn {n : Nat} (h : n < 2 ^ 64) : (lN n).toBitVec.toNat = n := by rw [wb_tb, BitVec.toNat_ofNat, Nat.mod_eq_of_lt h]
theorem wb_of (x : Int64) : ∃ n, n < 2 ^ 64 ∧ x = lN n := ⟨x.toBitVec.toNat, x.toBitVec.isLt, wb_inj (by rw [wb_tb]; simp)⟩
theorem wb_of32 (x : Int32) : ∃ n, n < 2 ^ 32 ∧ x = nI n := ⟨x.toBitVec.toNat, x.toBitVec.isLt, Int32.toBitVec_inj.mp (by show _ = BitVec.ofNat 32 _; simp)⟩
theorem wb_c : ∀ k, k < 64 → ((nI k).toInt64 &&& 63) = lN k := by decide +kernel
theorem wb_cu : ∀ k, k < 64 → ((nI k).toInt64.toUInt64 &&& Int64.toUInt64 63) = UInt64.ofNat k := by decide +kernel
theorem wb_sm : ∀ k, k < 64 → (BitVec.ofNat 64 k).smod 64 = BitVec.ofNat 64 k := by decide +kernel
theorem wb_pw {a b : Nat} (h : a ≤ b) : 2 ^ b = 2 ^ a * 2 ^ (b - a) := by rw [← Nat.pow_add]; congr 1; omega
theorem wb_lt2 {a b : Nat} (h : a < b) : 2 ^ a < 2 ^ b := Nat.pow_lt_pow_right (by decide) h
theorem wb_mod (n : Nat) : lN n = lN (n % 2 ^ 64) := wb_inj (by rw [wb_tb, wb_tb]; apply BitVec.eq_of_toNat_eq; rw [BitVec.toNat_ofNat, BitVec.toNat_ofNat, Nat.mod_mod])
theorem wb_shr {n k : Nat} (hn : n < 2 ^ 64) (hk : k < 64) : ((lN n).toUInt64 >>> ((nI k).toInt64.toUInt64 &&& Int64.toUInt64 63)).toInt64 = lN (n / 2 ^ k) := by
  rw [wb_cu k hk]
  apply wb_inj
  apply BitVec.eq_of_toNat_eq
  show ((lN n).toUInt64 >>> UInt64.ofNat k).toNat = (BitVec.ofNat 64 _).toNat
  have h1 : (UInt64.ofNat k).toNat = k := by
    show (BitVec.ofNat 64 k).toNat = k
    rw [BitVec.toNat_ofNat, Nat.mod_eq_of_lt (by omega)]
  have h2 : (lN n).toUInt64.toNat = n := wb_tn hn
  rw [UInt64.toNat_shiftRight, h1, h2, Nat.mod_eq_of_lt hk, Nat.shiftRight_eq_div_pow, BitVec.toNat_ofNat, Nat.mod_eq_of_lt (Nat.lt_of_le_of_lt (Nat.div_le_self _ _) hn)]
theorem wb_shl (n : Nat) {k : Nat} (hk : k < 64) : lN n <<< ((nI k).toInt64 &&& 63) = lN (n * 2 ^ k) := by
  rw [wb_c k hk]
  apply wb_inj
  rw [Int64.toBitVec_shiftLeft, wb_tb, wb_tb, wb_tb, wb_sm k hk]
  apply BitVec.eq_of_toNat_eq
  rw [BitVec.shiftLeft_eq', BitVec.toNat_shiftLeft, BitVec.toNat_ofNat, BitVec.toNat_ofNat, BitVec.toNat_ofNat, Nat.mod_eq_of_lt (show k < 2 ^ 64 by omega), Nat.shiftLeft_eq, Nat.mul_mod, Nat.mod_mod, ← Nat.mul_mod]
theorem wb_and {a b : Nat} (ha : a < 2 ^ 64) (hb : b < 2 ^ 64) : lN a &&& lN b = lN (a &&& b) := by
  apply wb_inj
  rw [Int64.toBitVec_and, wb_tb, wb_tb, wb_tb]
  apply BitVec.eq_of_toNat_eq
  rw [BitVec.toNat_and, BitVec.toNat_ofNat, BitVec.toNat_ofNat, BitVec.toNat_ofNat, Nat.mod_eq_of_lt ha, Nat.mod_eq_of_lt hb, Nat.mod_eq_of_lt (Nat.and_lt_two_pow _ hb)]
theorem wb_or {a b : Nat} (ha : a < 2 ^ 64) (hb : b < 2 ^ 64) : lN a ||| lN b = lN (a ||| b) := by
  apply wb_inj
  rw [Int64.toBitVec_or, wb_tb, wb_tb, wb_tb]
  apply BitVec.eq_of_toNat_eq
  rw [BitVec.toNat_or, BitVec.toNat_ofNat, BitVec.toNat_ofNat, BitVec.toNat_ofNat, Nat.mod_eq_of_lt ha, Nat.mod_eq_of_lt hb, Nat.mod_eq_of_lt (Nat.or_lt_two_pow ha hb)]
theorem wb_mask {n k : Nat} (hn : n < 2 ^ 64) (hk : k < 64) : lN n &&& lN (2 ^ k - 1) = lN (n % 2 ^ k) := by
  rw [wb_and hn (by have := wb_lt2 hk; omega), Nat.and_two_pow_sub_one_eq_mod]
theorem wb_a1 {n : Nat} (hn : n < 2 ^ 64) : lN n &&& 1 = lN (n % 2) := wb_mask (k := 1) hn (by decide)
theorem wb_bit {n k : Nat} (hn : n < 2 ^ 64) (hk : k < 64) : ((lN n).toUInt64 >>> ((nI k).toInt64.toUInt64 &&& Int64.toUInt64 63)).toInt64 &&& 1 = lN (n / 2 ^ k % 2) := by
  rw [wb_shr hn hk, wb_a1 (Nat.lt_of_le_of_lt (Nat.div_le_self _ _) hn)]
/-- the byte of a long at place k -/
def byt (v : Int64) (k : Nat) : Int := ((v.toBitVec.toNat / 2 ^ (8 * k) % 256 : Nat) : Int)
theorem byt_lt (v : Int64) (k : Nat) : 0 ≤ byt v k ∧ byt v k < 256 := by unfold byt; omega
theorem and255 (n : Nat) : nI n &&& iI 255 = iI ((n % 256 : Nat) : Int) := by
  rw [iI_nat, pk_and (nI n) (m := iI 255) 8 (by decide +kernel)]
  congr 1
  show (BitVec.ofNat 32 n).toNat % 2 ^ 8 = n % 256
  rw [BitVec.toNat_ofNat]
  omega
theorem byt_u (v : Int64) {k : Nat} (hk : k < 8) : ((v.toUInt64 >>> ((Int32.toInt64 (iI (8 * (k : Int)))).toUInt64 &&& Int64.toUInt64 63)).toInt64).toInt32 &&& iI 255 = iI (byt v k) := by
  obtain ⟨n, hn, rfl⟩ := wb_of v
  have e : iI (8 * (k : Int)) = nI (8 * k) := by rw [← iI_nat]; congr 1
  rw [e, wb_shr hn (by omega), lN_i, and255]
  unfold byt
  rw [wb_tn hn]
theorem byt_s (v : Int64) {k : Nat} (hk : k < 8) : (v >>> (Int32.toInt64 (iI (8 * (k : Int))) &&& 63)).toInt32 &&& iI 255 = iI (byt v k) := by
  rw [← byt_u v hk]
  have e : iI (8 * (k : Int)) = nI (8 * k) := by rw [← iI_nat]; congr 1
  rw [e, wb_c (8 * k) (by omega), wb_cu (8 * k) (by omega)]
  apply Int32.toBitVec_inj.mp
  rw [Int32.toBitVec_and, Int32.toBitVec_and]
  have h1 : (v >>> lN (8 * k)).toInt32.toBitVec = (v.toBitVec.sshiftRight (8 * k)).signExtend 32 := by
    show (v >>> lN (8 * k)).toBitVec.signExtend 32 = _
    rw [Int64.toBitVec_shiftRight, wb_tb, wb_sm (8 * k) (by omega)]
    congr 1
    show BitVec.sshiftRight _ _ = _
    rw [BitVec.toNat_ofNat, Nat.mod_eq_of_lt (by omega)]
  have h2 : ((v.toUInt64 >>> UInt64.ofNat (8 * k)).toInt64).toInt32.toBitVec = (v.toBitVec >>> (8 * k)).signExtend 32 := by
    show ((v.toUInt64 >>> UInt64.ofNat (8 * k)).toBitVec).signExtend 32 = _
    rw [UInt64.toBitVec_shiftRight]
    congr 1
    show BitVec.ushiftRight _ _ = BitVec.ushiftRight _ _
    congr 1
    show (BitVec.ofNat 64 (8 * k) % 64).toNat = 8 * k
    rw [BitVec.toNat_umod, BitVec.toNat_ofNat]
    have e64 : (64 : BitVec 64).toNat = 64 := rfl
    rw [e64]
    omega
  rw [h1, h2]
  apply BitVec.eq_of_getLsbD_eq
  intro i hi
  rw [BitVec.getLsbD_and, BitVec.getLsbD_and]
  have h255 : ∀ j : Fin 32, (iI 255).toBitVec.getLsbD j.val = decide (j.val < 8) := by decide +kernel
  rw [h255 ⟨i, hi⟩]
  by_cases h8 : i < 8
  · have a1 : 8 * k + i < 64 := by omega
    congr 1
    rw [BitVec.getLsbD_signExtend, BitVec.getLsbD_signExtend, if_pos (show i < 64 by omega), if_pos (show i < 64 by omega), BitVec.getLsbD_sshiftRight, BitVec.getLsbD_ushiftRight]
    simp [a1, show ¬ 64 ≤ i by omega]
  · simp [h8]
