/-! longs by their bits -/
def bl (x : Int64) (j : Nat) : Bool := x.toBitVec.getLsbD j
theorem bl_ext {x y : Int64} (h : ∀ j, j < 64 → bl x j = bl y j) : x = y := Int64.toBitVec_inj.mp (BitVec.eq_of_getLsbD_eq h)
theorem bl_and (x y : Int64) (j : Nat) : bl (x &&& y) j = (bl x j && bl y j) := by unfold bl; rw [Int64.toBitVec_and, BitVec.getLsbD_and]
theorem bl_or (x y : Int64) (j : Nat) : bl (x ||| y) j = (bl x j || bl y j) := by unfold bl; rw [Int64.toBitVec_or, BitVec.getLsbD_or]
theorem bl_xor (x y : Int64) (j : Nat) : bl (x ^^^ y) j = (bl x j ^^ bl y j) := by unfold bl; rw [Int64.toBitVec_xor, BitVec.getLsbD_xor]
theorem bl_m1 : ∀ j, j < 64 → bl (-1) j = true := by unfold bl; decide +kernel
theorem bl_0 (j : Nat) : bl 0 j = false := by unfold bl; simp
theorem bl_not {x : Int64} {j : Nat} (h : j < 64) : bl (x ^^^ (-1)) j = !bl x j := by rw [bl_xor, bl_m1 j h]; simp
theorem bl_big {x : Int64} {j : Nat} (h : 64 ≤ j) : bl x j = false := by unfold bl; exact BitVec.getLsbD_of_ge _ _ h
theorem sh_c {k : Nat} (hk : k < 64) : iI ((k : Nat) : Int) = nI k := iI_nat k
theorem sh_rT (x : Int64) {k : Nat} (hk : k < 64) : ((x.toUInt64 >>> ((Int32.toInt64 (iI ((k : Nat) : Int))).toUInt64 &&& Int64.toUInt64 63)).toInt64).toBitVec = x.toBitVec >>> k := by
  rw [sh_c hk, wb_cu k hk]
  show (x.toUInt64 >>> UInt64.ofNat k).toBitVec = _
  rw [UInt64.toBitVec_shiftRight]
  show BitVec.ushiftRight _ _ = BitVec.ushiftRight _ _
  congr 1
  show (BitVec.ofNat 64 k % 64).toNat = k
  rw [BitVec.toNat_umod, BitVec.toNat_ofNat]
  have e64 : (64 : BitVec 64).toNat = 64 := rfl
  rw [e64]
  omega
theorem sh_lT (x : Int64) {k : Nat} (hk : k < 64) : (x <<< (Int32.toInt64 (iI ((k : Nat) : Int)) &&& 63)).toBitVec = x.toBitVec <<< k := by
  rw [sh_c hk, wb_c k hk, Int64.toBitVec_shiftLeft, wb_tb, wb_sm k hk]
  show BitVec.shiftLeft _ _ = BitVec.shiftLeft _ _
  congr 1
  rw [BitVec.toNat_ofNat, Nat.mod_eq_of_lt (by omega)]
theorem bl_shr (x : Int64) {k : Nat} (hk : k < 64) (j : Nat) : bl ((x.toUInt64 >>> ((Int32.toInt64 (iI ((k : Nat) : Int))).toUInt64 &&& Int64.toUInt64 63)).toInt64) j = bl x (k + j) := by
  unfold bl; rw [sh_rT x hk, BitVec.getLsbD_ushiftRight]
theorem bl_shl (x : Int64) {k : Nat} (hk : k < 64) {j : Nat} (hj : j < 64) : bl (x <<< (Int32.toInt64 (iI ((k : Nat) : Int)) &&& 63)) j = (decide (k ≤ j) && bl x (j - k)) := by
  unfold bl; rw [sh_lT x hk, BitVec.getLsbD_shiftLeft]
  by_cases h : j < k
  · simp [h, hj, show ¬ k ≤ j by omega]
  · simp [h, hj, show k ≤ j by omega]
theorem bl_jL {v : Nat} (h : v < 2 ^ 63) (j : Nat) : bl (jL (v : Int)) j = v.testBit j := by
  unfold bl jL
  rw [Int64.ofInt_eq_ofNat]
  show (BitVec.ofNat 64 v).getLsbD j = _
  rw [BitVec.getLsbD_ofNat]
  by_cases hj : j < 64
  · simp [hj]
  · simp [hj]
    rw [Nat.testBit_lt_two_pow]
    exact Nat.lt_of_lt_of_le h (Nat.pow_le_pow_right (by decide) (by omega))
/-- four bits at k -/
def nib (x : Int64) (k : Nat) : Nat := x.toBitVec.toNat / 2 ^ k % 16
theorem nib_lt (x : Int64) (k : Nat) : nib x k < 16 := Nat.mod_lt _ (by decide)
theorem and15 (n : Nat) : nI n &&& iI 15 = iI ((n % 16 : Nat) : Int) := by
  rw [iI_nat, pk_and (nI n) (m := iI 15) 4 (by decide +kernel)]
  congr 1
  show (BitVec.ofNat 32 n).toNat % 2 ^ 4 = n % 16
  rw [BitVec.toNat_ofNat]
  omega
theorem nib_u (x : Int64) {k : Nat} (hk : k < 64) : ((x.toUInt64 >>> ((Int32.toInt64 (iI ((k : Nat) : Int))).toUInt64 &&& Int64.toUInt64 63)).toInt64).toInt32 &&& iI 15 = iI ((nib x k : Nat) : Int) := by
  obtain ⟨n, hn, rfl⟩ := wb_of x
  rw [sh_c hk, wb_shr hn hk, lN_i, and15]
  unfold nib
  rw [wb_tn hn]
theorem nib_bit (x : Int64) (k i : Nat) : (nib x k).testBit i = (decide (i < 4) && bl x (k + i)) := by
  unfold nib bl
  rw [show (16 : Nat) = 2 ^ 4 from rfl, Nat.testBit_mod_two_pow, BitVec.getLsbD, Nat.testBit_div_two_pow, Nat.add_comm i k]
/-- putting four bits -/
theorem bl_set (x : Int64) {k v : Nat} (hk : k + 4 ≤ 64) (hv : v < 16) {j : Nat} (hj : j < 64) :
    bl ((x &&& ((jL 15 <<< (Int32.toInt64 (iI ((k : Nat) : Int)) &&& 63)) ^^^ (-1))) ||| (jL (v : Int) <<< (Int32.toInt64 (iI ((k : Nat) : Int)) &&& 63))) j = if k ≤ j ∧ j < k + 4 then v.testBit (j - k) else bl x j := by
  have e15 : (15 : Int) = ((15 : Nat) : Int) := rfl
  rw [bl_or, bl_and, bl_not hj, bl_shl _ (by omega) hj, bl_shl _ (by omega) hj, e15, bl_jL (by decide), bl_jL (Nat.lt_of_lt_of_le hv (by decide))]
  have h15 : ∀ i, (15 : Nat).testBit i = decide (i < 4) := by
    intro i
    rw [show (15 : Nat) = 2 ^ 4 - 1 from rfl, Nat.testBit_two_pow_sub_one]
  rw [h15]
  by_cases h1 : k ≤ j
  · by_cases h2 : j < k + 4
    · rw [if_pos ⟨h1, h2⟩]
      simp [h1, show j - k < 4 by omega]
    · rw [if_neg (by omega)]
      have : v.testBit (j - k) = false := Nat.testBit_lt_two_pow (Nat.lt_of_lt_of_le hv (by
        show 2 ^ 4 ≤ _
        exact Nat.pow_le_pow_right (by decide) (by omega)))
      simp [h1, this, show ¬ j - k < 4 by omega]
  · rw [if_neg (by omega)]
    simp [h1]
/-- st shows sh: ix says where each moving piece's four bits lie -/
def mvg (k : Int) : Prop := k = 4 ∨ k = 7 ∨ k = 9
def BE (pc : Nat → Int) (ix : Nat → Nat) (st : Int64) (sh : Nat → Int) : Prop := ∀ j, j < 64 → (bl st j = true ↔ ∃ p, p < 156 ∧ mvg (pc p) ∧ 4 * ix p ≤ j ∧ j < 4 * ix p + 4 ∧ (sh p).toNat.testBit (j - 4 * ix p) = true)
/-- the places of moving pieces' bits -/
def Ixw (pc : Nat → Int) (ix : Nat → Nat) : Prop := (∀ p, p < 156 → ix p < 16) ∧ ∀ p q, p < 156 → q < 156 → mvg (pc p) → mvg (pc q) → ix p = ix q → p = q
theorem BE.uniq {pc : Nat → Int} {ix : Nat → Nat} {s1 s2 : Int64} {sh : Nat → Int} (h1 : BE pc ix s1 sh) (h2 : BE pc ix s2 sh) : s1 = s2 := by
  refine bl_ext (fun j hj => ?_)
  have a := (h1 j hj).trans (h2 j hj).symm
  cases e1 : bl s1 j <;> cases e2 : bl s2 j <;> simp [e1, e2] at a ⊢
theorem BE.nb {pc : Nat → Int} {ix : Nat → Nat} {st : Int64} {sh : Nat → Int} (h : BE pc ix st sh) (hx : Ixw pc ix) {p : Nat} (hp : p < 156) (hm : mvg (pc p)) (h0 : 0 ≤ sh p) (h9 : sh p < 16) : ((nib st (4 * ix p) : Nat) : Int) = sh p := by
  have hi := hx.1 p hp
  have e : nib st (4 * ix p) = (sh p).toNat := by
    apply Nat.eq_of_testBit_eq
    intro i
    rw [nib_bit]
    by_cases h4 : i < 4
    · have hb := h (4 * ix p + i) (by omega)
      simp only [h4, decide_true, Bool.true_and]
      cases e1 : bl st (4 * ix p + i) with
      | true =>
        obtain ⟨q, q1, q2, q3, q4, q5⟩ := hb.mp e1
        have : q = p := hx.2 q p q1 hp q2 hm (by omega)
        subst this
        rw [show 4 * ix q + i - 4 * ix q = i by omega] at q5
        exact q5.symm
      | false =>
        cases e2 : (sh p).toNat.testBit i with
        | false => rfl
        | true =>
          have := hb.mpr ⟨p, hp, hm, by omega, by omega, by rw [show 4 * ix p + i - 4 * ix p = i by omega]; exact e2⟩
          rw [e1] at this
          cases this
    · have : (sh p).toNat.testBit i = false := Nat.testBit_lt_two_pow (Nat.lt_of_lt_of_le (show (sh p).toNat < 16 by omega) (by
        show 2 ^ 4 ≤ _
        exact Nat.pow_le_pow_right (by decide) (by omega)))
      rw [this]
      simp [h4]
  rw [e]
  omega
/-- one piece shows another number -/
theorem BE.up {pc : Nat → Int} {ix : Nat → Nat} {s1 s2 : Int64} {sh : Nat → Int} {p v : Nat} (h : BE pc ix s1 sh) (hx : Ixw pc ix) (hp : p < 156) (hm : mvg (pc p)) (hv : v < 16)
    (e : ∀ j, j < 64 → bl s2 j = if 4 * ix p ≤ j ∧ j < 4 * ix p + 4 then v.testBit (j - 4 * ix p) else bl s1 j) : BE pc ix s2 (va_up sh p (v : Int)) := by
  intro j hj
  rw [e j hj]
  by_cases hc : 4 * ix p ≤ j ∧ j < 4 * ix p + 4
  · rw [if_pos hc]
    constructor
    · intro hb
      exact ⟨p, hp, hm, hc.1, hc.2, by rw [up_at]; simpa using hb⟩
    · rintro ⟨q, q1, q2, q3, q4, q5⟩
      have : q = p := hx.2 q p q1 hp q2 hm (by omega)
      subst this
      rw [up_at] at q5
      simpa using q5
  · rw [if_neg hc, h j hj]
    constructor
    · rintro ⟨q, q1, q2, q3, q4, q5⟩
      exact ⟨q, q1, q2, q3, q4, by rw [up_ne (fun e => hc (by subst e; exact ⟨q3, q4⟩))]; exact q5⟩
    · rintro ⟨q, q1, q2, q3, q4, q5⟩
      exact ⟨q, q1, q2, q3, q4, by rw [up_ne (fun e => hc (by subst e; exact ⟨q3, q4⟩))] at q5; exact q5⟩
/-- the gates of a train flip -/
theorem BE.flip {pc tr : Nat → Int} {ix : Nat → Nat} {s1 F : Int64} {sh : Nat → Int} {t : Int} (h : BE pc ix s1 sh) (hx : Ixw pc ix) (hw : ∀ p, p < 156 → pc p = 4 → 0 ≤ sh p ∧ sh p ≤ 1)
    (hF : ∀ j, j < 64 → (bl F j = true ↔ ∃ q, q < 156 ∧ pc q = 4 ∧ tr q = t ∧ j = 4 * ix q)) : BE pc ix (s1 ^^^ F) (aFlip pc tr t sh) := by
  intro j hj
  rw [bl_xor]
  have b1 := h j hj
  have b2 := hF j hj
  by_cases hn : ∃ p, p < 156 ∧ mvg (pc p) ∧ 4 * ix p ≤ j ∧ j < 4 * ix p + 4
  · obtain ⟨p, hp, hm, h1, h2⟩ := hn
    have u : ∀ q, q < 156 → mvg (pc q) → 4 * ix q ≤ j → j < 4 * ix q + 4 → q = p := fun q q1 q2 q3 q4 => hx.2 q p q1 hp q2 hm (by omega)
    have c1 : bl s1 j = (sh p).toNat.testBit (j - 4 * ix p) := by
      cases e : (sh p).toNat.testBit (j - 4 * ix p) with
      | true => exact b1.mpr ⟨p, hp, hm, h1, h2, e⟩
      | false =>
        cases e1 : bl s1 j with
        | false => rfl
        | true =>
          obtain ⟨q, q1, q2, q3, q4, q5⟩ := b1.mp e1
          have := u q q1 q2 q3 q4
          subst this
          rw [e] at q5; cases q5
    have c2 : bl F j = decide (pc p = 4 ∧ tr p = t ∧ j = 4 * ix p) := by
      by_cases hd : pc p = 4 ∧ tr p = t ∧ j = 4 * ix p
      · rw [decide_eq_true hd]
        exact b2.mpr ⟨p, hp, hd.1, hd.2.1, hd.2.2⟩
      · rw [decide_eq_false hd]
        cases e1 : bl F j with
        | false => rfl
        | true =>
          obtain ⟨q, q1, q2, q3, q4⟩ := b2.mp e1
          have := u q q1 (Or.inl q2) (by omega) (by omega)
          subst this
          exact absurd ⟨q2, q3, q4⟩ hd
    have c3 : (bl s1 j ^^ bl F j) = (aFlip pc tr t sh p).toNat.testBit (j - 4 * ix p) := by
      rw [c1, c2]
      unfold aFlip
      by_cases hc : tr p = t ∧ pc p = 4
      · rw [if_pos ⟨hp, hc⟩]
        have hs := hw p hp hc.2
        by_cases hj0 : j = 4 * ix p
        · rw [decide_eq_true ⟨hc.2, hc.1, hj0⟩, show j - 4 * ix p = 0 by omega]
          rcases (show sh p = 0 ∨ sh p = 1 by omega) with e | e <;> rw [e] <;> decide
        · rw [decide_eq_false (by omega)]
          obtain ⟨i, hi⟩ : ∃ i, j - 4 * ix p = i + 1 := ⟨j - 4 * ix p - 1, by omega⟩
          rw [hi]
          have z : ∀ n : Nat, n ≤ 1 → n.testBit (i + 1) = false := fun n hn => Nat.testBit_lt_two_pow (Nat.lt_of_le_of_lt hn (by
            show 1 < 2 ^ (i + 1)
            exact Nat.one_lt_two_pow (by omega)))
          rw [z _ (by omega), z _ (by omega)]
          rfl
      · rw [if_neg (by omega), decide_eq_false (by omega)]
        simp
    rw [c3]
    constructor
    · intro e
      exact ⟨p, hp, hm, h1, h2, e⟩
    · rintro ⟨q, q1, q2, q3, q4, q5⟩
      have := u q q1 q2 q3 q4
      subst this
      exact q5
  · have c1 : bl s1 j = false := by
      cases e1 : bl s1 j with
      | false => rfl
      | true =>
        obtain ⟨q, q1, q2, q3, q4, q5⟩ := b1.mp e1
        exact absurd ⟨q, q1, q2, q3, q4⟩ hn
    have c2 : bl F j = false := by
      cases e1 : bl F j with
      | false => rfl
      | true =>
        obtain ⟨q, q1, q2, q3, q4⟩ := b2.mp e1
        exact absurd ⟨q, q1, Or.inl q2, by omega, by omega⟩ hn
    rw [c1, c2]
    constructor
    · intro e; cases e
    · rintro ⟨q, q1, q2, q3, q4, q5⟩
      exact absurd ⟨q, q1, q2, q3, q4⟩ hn
