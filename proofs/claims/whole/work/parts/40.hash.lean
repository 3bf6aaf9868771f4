/-! A TABLE of 8192 cells with numbered keys (both sides have one): occ c is the number that lies in cell c -/
theorem pigeon : ∀ (n m : Nat) (f : Nat → Nat), n < m → (∀ i, i < m → f i < n) → ∃ i j, i < m ∧ j < m ∧ i ≠ j ∧ f i = f j := by
  intro n
  induction n with
  | zero => intro m f h hf; exact absurd (hf 0 (by omega)) (by omega)
  | succ n ih =>
    intro m f h hf
    by_cases hx : ∃ i, i < m - 1 ∧ f i = f (m - 1)
    · obtain ⟨i, hi, e⟩ := hx
      exact ⟨i, m - 1, by omega, by omega, by omega, e⟩
    · have hl := hf (m - 1) (by omega)
      obtain ⟨i, j, hi, hj, hne, e⟩ := ih (m - 1) (fun i => if f i = n then f (m - 1) else f i) (by omega) (fun i hi => by
        have h1 := hf i (by omega)
        split
        · rename_i hc
          have : f (m - 1) ≠ n := fun q => hx ⟨i, hi, by rw [hc, q]⟩
          omega
        · omega)
      refine ⟨i, j, by omega, by omega, hne, ?_⟩
      split at e <;> split at e
      · rename_i a b; rw [a, b]
      · rename_i a b; exact absurd ⟨j, hj, e.symm⟩ hx
      · rename_i a b; exact absurd ⟨i, hi, e⟩ hx
      · exact e
def HI (occ : Nat → Option Nat) (n : Nat) (A B : Nat → Int64) (h : Int64 → Int64 → Nat) : Prop :=
  (∀ c i, c < 8192 → occ c = some i → i < n) ∧ (∀ c e i, c < 8192 → e < 8192 → occ c = some i → occ e = some i → c = e) ∧
  (∀ i, i < n → ∃ t, t < 8192 ∧ occ ((h (A i) (B i) + t) % 8192) = some i ∧ ∀ u, u < t → ¬ occ ((h (A i) (B i) + u) % 8192) = none) ∧ (∀ i j, i < n → j < n → A i = A j → B i = B j → i = j)
/-- the walk from a key's place, t cells on: all are taken, by other keys -/
def HW (occ : Nat → Option Nat) (A B : Nat → Int64) (h0 t : Nat) (a b : Int64) : Prop := ∀ u, u < t → ∃ i, occ ((h0 + u) % 8192) = some i ∧ ¬ (A i = a ∧ B i = b)
theorem HW.free {occ : Nat → Option Nat} {n : Nat} {A B : Nat → Int64} {h : Int64 → Int64 → Nat} (hI : HI occ n A B h) (hn : n < 8192) {h0 t : Nat} {a b : Int64} (hw : HW occ A B h0 t a b) : t < 8192 := by
  rcases Nat.lt_or_ge t 8192 with q | q
  · exact q
  · exfalso
    obtain ⟨i, j, hi, hj, hne, e⟩ := pigeon n 8192 (fun u => (occ ((h0 + u) % 8192)).getD 0) hn (fun u hu => by
      obtain ⟨k, hk, -⟩ := hw u (by omega)
      simp only [hk, Option.getD_some]
      exact hI.1 _ _ (Nat.mod_lt _ (by decide)) hk)
    obtain ⟨k1, hk1, -⟩ := hw i (by omega)
    obtain ⟨k2, hk2, -⟩ := hw j (by omega)
    simp only [hk1, hk2, Option.getD_some] at e
    subst e
    have := hI.2.1 _ _ _ (Nat.mod_lt _ (by decide)) (Nat.mod_lt _ (by decide)) hk1 hk2
    omega
/-- a free cell at the walk's end: the key isn't there -/
theorem HW.none {occ : Nat → Option Nat} {n : Nat} {A B : Nat → Int64} {h : Int64 → Int64 → Nat} (hI : HI occ n A B h) {t : Nat} {a b : Int64} (hw : HW occ A B (h a b) t a b) (hf : occ ((h a b + t) % 8192) = none) : ¬ ∃ i, i < n ∧ A i = a ∧ B i = b := by
  rintro ⟨i, hi, rfl, rfl⟩
  obtain ⟨t2, h2, h3, h4⟩ := hI.2.2.1 i hi
  rcases Nat.lt_trichotomy t t2 with q | q | q
  · exact h4 t q hf
  · subst q; rw [h3] at hf; cases hf
  · obtain ⟨k, hk, hk2⟩ := hw t2 q
    rw [h3] at hk
    cases hk
    exact hk2 ⟨rfl, rfl⟩
/-- a new key -/
theorem HI.add {occ : Nat → Option Nat} {n : Nat} {A B : Nat → Int64} {h : Int64 → Int64 → Nat} (hI : HI occ n A B h) {t : Nat} {a b : Int64} (ht : t < 8192) (hw : HW occ A B (h a b) t a b) (hf : occ ((h a b + t) % 8192) = none) {occ2 : Nat → Option Nat}
    (h2 : ∀ c, c < 8192 → occ2 c = if c = (h a b + t) % 8192 then some n else occ c) : HI occ2 (n + 1) (va_up A n a) (va_up B n b) h := by
  have hno := HW.none hI hw hf
  obtain ⟨i1, i2, i3, i4⟩ := hI
  refine ⟨fun c i hc e => ?_, fun c e i hc he e1 e2 => ?_, fun i hi => ?_, fun i j hi hj ea eb => ?_⟩
  · rw [h2 c hc] at e
    split at e
    · cases e; omega
    · have := i1 c i hc e; omega
  · rw [h2 c hc] at e1
    rw [h2 e he] at e2
    split at e1 <;> split at e2
    · omega
    · cases e1; have := i1 e n he e2; omega
    · cases e2; have := i1 c n hc e1; omega
    · exact i2 c e i hc he e1 e2
  · by_cases hin : i = n
    · subst hin
      rw [up_at, up_at]
      refine ⟨t, ht, by rw [h2 _ (Nat.mod_lt _ (by decide)), if_pos rfl], fun u hu => ?_⟩
      rw [h2 _ (Nat.mod_lt _ (by decide))]
      split
      · intro q; cases q
      · obtain ⟨k, hk, -⟩ := hw u hu
        rw [hk]; intro q; cases q
    · rw [up_ne hin, up_ne hin]
      obtain ⟨t2, q1, q2, q3⟩ := i3 i (by omega)
      refine ⟨t2, q1, ?_, fun u hu => ?_⟩
      · rw [h2 _ (Nat.mod_lt _ (by decide)), if_neg (fun q => by rw [q, hf] at q2; cases q2)]
        exact q2
      · rw [h2 _ (Nat.mod_lt _ (by decide))]
        split
        · intro q; cases q
        · exact q3 u hu
  · by_cases e1 : i = n
    · by_cases e2 : j = n
      · omega
      · subst e1
        rw [up_at, up_ne e2] at ea eb
        exact absurd ⟨j, by omega, ea.symm, eb.symm⟩ hno
    · by_cases e2 : j = n
      · subst e2
        rw [up_at, up_ne e1] at ea eb
        exact absurd ⟨i, by omega, ea, eb⟩ hno
      · rw [up_ne e1, up_ne e2] at ea eb
        exact i4 i j (by omega) (by omega) ea eb
theorem HI.congr {occ occ2 : Nat → Option Nat} {n : Nat} {A B A2 B2 : Nat → Int64} {h : Int64 → Int64 → Nat} (hI : HI occ n A B h) (ho : ∀ c, c < 8192 → occ2 c = occ c) (hA : ∀ i, i < n → A2 i = A i ∧ B2 i = B i) : HI occ2 n A2 B2 h := by
  obtain ⟨i1, i2, i3, i4⟩ := hI
  refine ⟨fun c i hc e => i1 c i hc (by rw [← ho c hc]; exact e), fun c e i hc he e1 e2 => i2 c e i hc he (by rw [← ho c hc]; exact e1) (by rw [← ho e he]; exact e2), fun i hi => ?_, fun i j hi hj ea eb => ?_⟩
  · obtain ⟨t, q1, q2, q3⟩ := i3 i hi
    rw [(hA i hi).1, (hA i hi).2]
    exact ⟨t, q1, by rw [ho _ (Nat.mod_lt _ (by decide))]; exact q2, fun u hu => by rw [ho _ (Nat.mod_lt _ (by decide))]; exact q3 u hu⟩
  · rw [(hA i hi).1, (hA j hj).1] at ea
    rw [(hA i hi).2, (hA j hj).2] at eb
    exact i4 i j hi hj ea eb
theorem HI.nil {occ : Nat → Option Nat} {A B : Nat → Int64} {h : Int64 → Int64 → Nat} (ho : ∀ c, c < 8192 → occ c = none) : HI occ 0 A B h :=
  ⟨fun c i hc e => (by rw [ho c hc] at e; cases e), fun c e i hc he e1 => (by rw [ho c hc] at e1; cases e1), fun i hi => (by omega), fun i j hi => (by omega)⟩
/-! a compare of longs -/
def lcm_ (x y : Int64) : Int := if y < x then 1 else if x < y then -1 else 0
theorem lg_iI (x y : Int64) : lg_cmp x y = iI (lcm_ x y) := by
  unfold lg_cmp lcm_
  have e : x = y ↔ x.toInt = y.toInt := Int64.toInt_inj.symm
  have l1 : y < x ↔ y.toInt < x.toInt := Int64.lt_iff_toInt_lt
  have l2 : x < y ↔ x.toInt < y.toInt := Int64.lt_iff_toInt_lt
  by_cases h1 : y < x
  · rw [if_pos h1, if_pos h1]; rfl
  · rw [if_neg h1, if_neg h1]
    by_cases h2 : x = y
    · rw [if_pos h2, if_neg (by rw [l2]; rw [e] at h2; omega)]; rfl
    · rw [if_neg h2, if_pos (by rw [l2]; rw [e] at h2; rw [l1] at h1; omega)]; rfl
theorem lcm_r (x y : Int64) : -1 ≤ lcm_ x y ∧ lcm_ x y ≤ 1 ∧ (lcm_ x y = 0 ↔ x = y) := by
  unfold lcm_
  have e : x = y ↔ x.toInt = y.toInt := Int64.toInt_inj.symm
  have l1 : y < x ↔ y.toInt < x.toInt := Int64.lt_iff_toInt_lt
  have l2 : x < y ↔ x.toInt < y.toInt := Int64.lt_iff_toInt_lt
  rw [e]
  split
  · rename_i h; rw [l1] at h; omega
  · split
    · rename_i h; rw [l2] at h; omega
    · rename_i h1 h2; rw [l1] at h1; rw [l2] at h2; omega
theorem lcm_lt (x y : Int64) : (lcm_ x y < 0 ↔ x.toInt < y.toInt) ∧ (0 < lcm_ x y ↔ y.toInt < x.toInt) := by
  unfold lcm_
  have l1 : y < x ↔ y.toInt < x.toInt := Int64.lt_iff_toInt_lt
  have l2 : x < y ↔ x.toInt < y.toInt := Int64.lt_iff_toInt_lt
  split
  · rename_i h; rw [l1] at h; omega
  · split
    · rename_i h; rw [l2] at h; omega
    · rename_i h1 h2; rw [l1] at h1; rw [l2] at h2; omega
def hC (a b : Int64) : Nat := ((a * (-7046029254386353131) + b) * (-4417276706812531889)).toBitVec.toNat / 2 ^ 51
def hM (a b : Int64) : Nat := ((a * 31 + b) * 2654435761).toBitVec.toNat / 2 ^ 20 % 8192
theorem hC_lt (a b : Int64) : hC a b < 8192 := by
  unfold hC
  have := ((a * (-7046029254386353131) + b) * (-4417276706812531889)).toBitVec.isLt
  omega
theorem hM_lt (a b : Int64) : hM a b < 8192 := Nat.mod_lt _ (by decide)
theorem hC_e (x : Int64) : ((x.toUInt64 >>> ((Int32.toInt64 (iI 51)).toUInt64 &&& Int64.toUInt64 63)).toInt64).toInt32 = iI ((x.toBitVec.toNat / 2 ^ 51 : Nat) : Int) := by
  obtain ⟨n, hn, rfl⟩ := wb_of x
  have e : iI 51 = nI 51 := iI_nat 51
  rw [e, wb_shr hn (by decide), lN_i, wb_tn hn, iI_nat]
theorem hM_e (x : Int64) : (((x.toUInt64 >>> ((Int32.toInt64 (iI 20)).toUInt64 &&& Int64.toUInt64 63)).toInt64) &&& 8191).toInt32 = iI ((x.toBitVec.toNat / 2 ^ 20 % 8192 : Nat) : Int) := by
  obtain ⟨n, hn, rfl⟩ := wb_of x
  have e : iI 20 = nI 20 := iI_nat 20
  have e2 : (8191 : Int64) = lN (2 ^ 13 - 1) := rfl
  rw [e, wb_shr hn (by decide), e2, wb_mask (Nat.lt_of_le_of_lt (Nat.div_le_self _ _) hn) (by decide), lN_i, wb_tn hn, iI_nat]
