/-! TOKENS: s the signs; token i begins at S i and ends ahead of E i; a WORD is known by its letters, read as a number to the base 256 -/
def srt (c : Int) : Int := if 97 ≤ c ∧ c ≤ 122 then 18 else if 48 ≤ c ∧ c ≤ 57 then 19 else if c = 32 ∨ c = 10 then 21 else if c = 40 ∨ c = 41 ∨ c = 45 ∨ c = 59 then c else 20
theorem srt_r {c : Int} : (srt c = 18 ↔ 97 ≤ c ∧ c ≤ 122) ∧ (srt c = 19 ↔ 48 ≤ c ∧ c ≤ 57) ∧ (srt c = 21 ↔ c = 32 ∨ c = 10) ∧ (srt c = 18 ∨ srt c = 19 ∨ srt c = 20 ∨ srt c = 21 ∨ (srt c = c ∧ (c = 40 ∨ c = 41 ∨ c = 45 ∨ c = 59))) := by
  unfold srt
  (repeat' split) <;> omega
abbrev tkS : Type := Nat × Int × (Nat → Nat) × (Nat → Nat)
def tk1 (s : Nat → Int) (k : Nat) (t : tkS) : tkS :=
  if srt (s k) = t.2.1 ∧ (srt (s k) = 18 ∨ srt (s k) = 19) then (t.1, srt (s k), t.2.2.1, va_up t.2.2.2 (t.1 - 1) (k + 1))
  else if srt (s k) = 21 then (t.1, 21, t.2.2.1, t.2.2.2)
  else (t.1 + 1, srt (s k), va_up t.2.2.1 t.1 k, va_up t.2.2.2 t.1 (k + 1))
def tk (s : Nat → Int) : Nat → tkS
  | 0 => (0, 21, fun _ => 0, fun _ => 0)
  | k + 1 => tk1 s k (tk s k)
def tkT (s : Nat → Int) (k : Nat) (t : tkS) (i : Nat) : Prop := t.2.2.1 i < t.2.2.2 i ∧ t.2.2.2 i ≤ k ∧ (∀ j, t.2.2.1 i ≤ j → j < t.2.2.2 i → srt (s j) = srt (s (t.2.2.1 i))) ∧ srt (s (t.2.2.1 i)) ≠ 21 ∧ (¬ srt (s (t.2.2.1 i)) = 18 → ¬ srt (s (t.2.2.1 i)) = 19 → t.2.2.2 i = t.2.2.1 i + 1)
def tkN (s : Nat → Int) (t : tkS) (i : Nat) : Prop := t.2.2.2 i ≤ t.2.2.1 (i + 1) ∧ (srt (s (t.2.2.1 i)) = srt (s (t.2.2.1 (i + 1))) → srt (s (t.2.2.1 i)) = 18 ∨ srt (s (t.2.2.1 i)) = 19 → t.2.2.2 i < t.2.2.1 (i + 1))
def tkI (s : Nat → Int) (k : Nat) (t : tkS) : Prop := t.1 ≤ k ∧ (∀ i, i < t.1 → tkT s k t i) ∧ (∀ i, i + 1 < t.1 → tkN s t i) ∧ (t.2.1 = 18 ∨ t.2.1 = 19 → 0 < t.1 ∧ t.2.2.2 (t.1 - 1) = k ∧ srt (s (t.2.2.1 (t.1 - 1))) = t.2.1) ∧ (0 < t.1 → t.2.2.2 (t.1 - 1) = k → t.2.1 = srt (s (t.2.2.1 (t.1 - 1))))
theorem tk1_I {s : Nat → Int} {k : Nat} {t : tkS} (h : tkI s k t) : tkI s (k + 1) (tk1 s k t) := by
  obtain ⟨n, la, S, E⟩ := t
  obtain ⟨h1, h2, h3, h4, h5⟩ := h
  simp only at h1 h2 h3 h4 h5
  unfold tk1
  simp only
  split
  · rename_i c
    obtain ⟨c1, c2⟩ := c
    obtain ⟨g1, g2, g3⟩ := h4 (by omega)
    refine ⟨by show n ≤ k + 1; omega, fun i hi => ?_, fun i hi => ?_, fun _ => ⟨g1, ?_, ?_⟩, fun _ _ => ?_⟩
    · have hi : i < n := hi
      have := h2 i hi
      unfold tkT at this ⊢
      simp only at this ⊢
      by_cases e : i = n - 1
      · subst e
        rw [up_at]
        refine ⟨by omega, Nat.le_refl _, fun j j1 j2 => ?_, this.2.2.2.1, fun a b => by omega⟩
        by_cases e2 : j = k
        · subst e2; omega
        · exact this.2.2.1 j j1 (by omega)
      · rw [up_ne e]
        exact ⟨this.1, by omega, this.2.2⟩
    · have hi : i + 1 < n := hi
      have := h3 i hi
      unfold tkN at this ⊢
      simp only at this ⊢
      rw [up_ne (by omega)]
      exact this
    · show va_up E (n - 1) (k + 1) (n - 1) = k + 1
      rw [up_at]
    · show srt (s (S (n - 1))) = srt (s k)
      omega
    · show srt (s k) = srt (s (S (n - 1)))
      omega
  · rename_i c
    split
    · rename_i c2
      refine ⟨by show n ≤ k + 1; omega, fun i hi => ?_, fun i hi => h3 i hi, fun q => absurd q (by show ¬ ((21 : Int) = 18 ∨ (21 : Int) = 19); omega), fun g1 g2 => ?_⟩
      · have := h2 i hi
        exact ⟨this.1, Nat.le_succ_of_le this.2.1, this.2.2⟩
      · have g1 : 0 < n := g1
        have g2 : E (n - 1) = k + 1 := g2
        have := (h2 (n - 1) (by omega)).2.1
        simp only at this
        omega
    · rename_i c2
      refine ⟨by show n + 1 ≤ k + 1; omega, fun i hi => ?_, fun i hi => ?_, fun _ => ⟨by show 0 < n + 1; omega, ?_, ?_⟩, fun _ _ => ?_⟩
      · have hi : i < n + 1 := hi
        unfold tkT
        simp only
        by_cases e : i = n
        · subst e
          rw [up_at, up_at]
          exact ⟨by omega, Nat.le_refl _, fun j j1 j2 => by rw [show j = k by omega], c2, fun _ _ => rfl⟩
        · rw [up_ne e, up_ne e]
          have := h2 i (by omega)
          exact ⟨this.1, Nat.le_succ_of_le this.2.1, this.2.2⟩
      · have hi : i + 1 < n + 1 := hi
        unfold tkN
        simp only
        by_cases e : i + 1 = n
        · rw [show va_up E n (k + 1) i = E i from up_ne (by omega), show va_up S n k i = S i from up_ne (by omega), show va_up S n k (i + 1) = k from by rw [e, up_at]]
          have g := h2 i (by omega)
          unfold tkT at g
          simp only at g
          refine ⟨by omega, fun q1 q2 => ?_⟩
          have g5 := h5 (by omega)
          rw [show n - 1 = i by omega] at g5
          by_cases e3 : E i = k
          · have := g5 e3
            exact absurd ⟨by omega, by omega⟩ c
          · omega
        · rw [show va_up E n (k + 1) i = E i from up_ne (by omega), show va_up S n k i = S i from up_ne (by omega), show va_up S n k (i + 1) = S (i + 1) from up_ne (by omega)]
          exact h3 i (by omega)
      · show va_up E n (k + 1) (n + 1 - 1) = k + 1
        rw [Nat.add_sub_cancel, up_at]
      · show srt (s (va_up S n k (n + 1 - 1))) = srt (s k)
        rw [Nat.add_sub_cancel, up_at]
      · show srt (s k) = srt (s (va_up S n k (n + 1 - 1)))
        rw [Nat.add_sub_cancel, up_at]
theorem tk_I (s : Nat → Int) : ∀ k, tkI s k (tk s k) := by
  intro k
  induction k with
  | zero => exact ⟨Nat.le_refl _, fun i hi => absurd hi (by show ¬ i < 0; omega), fun i hi => absurd hi (by show ¬ i + 1 < 0; omega), fun q => absurd q (by show ¬ ((21 : Int) = 18 ∨ (21 : Int) = 19); omega), fun q => absurd q (by show ¬ 0 < 0; omega)⟩
  | succ k ih => exact tk1_I ih
/-! what a WORD or a NUMBER is worth -/
def e256 (s : Nat → Int) (a : Nat) : Nat → Nat
  | 0 => 0
  | m + 1 => e256 s a m * 256 + (s (a + m)).toNat
def e37 (s : Nat → Int) (a : Nat) : Nat → Nat
  | 0 => 0
  | m + 1 => 37 * e37 s a m + ((s (a + m)).toNat - 96)
def e10 (s : Nat → Int) (a : Nat) : Nat → Nat
  | 0 => 0
  | m + 1 => 10 * e10 s a m + ((s (a + m)).toNat - 48)
def ltr (s : Nat → Int) (a m : Nat) : Prop := ∀ i, i < m → 97 ≤ s (a + i) ∧ s (a + i) ≤ 122
def m37 : Nat → Nat → Nat
  | 0, _ => 0
  | f + 1, x => if x = 0 then 0 else 37 * m37 f (x / 256) + (x % 256 - 96)
theorem e256_lt {s : Nat → Int} {a : Nat} : ∀ m, ltr s a m → e256 s a m < 256 ^ m ∧ (0 < m → 256 ^ (m - 1) ≤ e256 s a m) := by
  intro m
  induction m with
  | zero => intro _; exact ⟨Nat.zero_lt_one, fun h => absurd h (Nat.lt_irrefl 0)⟩
  | succ m ih =>
    intro h
    have h1 := ih (fun i hi => h i (by omega))
    have h2 := h m (by omega)
    rw [e256, Nat.pow_succ]
    refine ⟨by omega, fun _ => ?_⟩
    rw [Nat.add_sub_cancel]
    by_cases e : m = 0
    · subst e
      rw [Nat.pow_zero]
      omega
    · have h3 := h1.2 (by omega)
      obtain ⟨k, rfl⟩ : ∃ k, m = k + 1 := ⟨m - 1, by omega⟩
      rw [Nat.add_sub_cancel] at h3
      rw [Nat.pow_succ]
      omega
theorem e256_m37 {s : Nat → Int} {a : Nat} : ∀ m f, m ≤ f → ltr s a m → m37 f (e256 s a m) = e37 s a m := by
  intro m
  induction m with
  | zero => intro f _ _; cases f <;> rfl
  | succ m ih =>
    intro f hf h
    obtain ⟨g, rfl⟩ : ∃ g, f = g + 1 := ⟨f - 1, by omega⟩
    have h2 := h m (by omega)
    rw [m37, if_neg (by rw [e256]; omega), e256, e37, show (e256 s a m * 256 + (s (a + m)).toNat) / 256 = e256 s a m by omega, show (e256 s a m * 256 + (s (a + m)).toNat) % 256 = (s (a + m)).toNat by omega, ih g (by omega) (fun i hi => h i (by omega))]
theorem e37_inj {s s2 : Nat → Int} {a b : Nat} : ∀ m m2, ltr s a m → ltr s2 b m2 → e37 s a m = e37 s2 b m2 → e256 s a m = e256 s2 b m2 := by
  intro m
  induction m with
  | zero =>
    intro m2 _ h2 e
    cases m2 with
    | zero => rfl
    | succ m2 =>
      have := h2 m2 (by omega)
      rw [e37, e37] at e
      omega
  | succ m ih =>
    intro m2 h1 h2 e
    have g1 := h1 m (by omega)
    cases m2 with
    | zero =>
      rw [e37, e37] at e
      omega
    | succ m2 =>
      have g2 := h2 m2 (by omega)
      rw [e37, e37] at e
      have e1 : e37 s a m = e37 s2 b m2 := by omega
      have e2 : (s (a + m)).toNat = (s2 (b + m2)).toNat := by omega
      rw [e256, e256, ih m2 (fun i hi => h1 i (by omega)) (fun i hi => h2 i (by omega)) e1, e2]
/-- a WORD's number -/
def vId (x : Nat) : Prop := ∃ s a m, 1 ≤ m ∧ m ≤ 8 ∧ ltr s a m ∧ x = e256 s a m
theorem vId.lt {x : Nat} (h : vId x) : x < 2 ^ 64 := by
  obtain ⟨s, a, m, h1, h2, h3, rfl⟩ := h
  have := (e256_lt m h3).1
  have h4 : 256 ^ m ≤ 256 ^ 8 := Nat.pow_le_pow_right (by decide) h2
  have h5 : (256 : Nat) ^ 8 = 2 ^ 64 := by decide
  omega
theorem e37_lt {s : Nat → Int} {a : Nat} : ∀ m, ltr s a m → e37 s a m < 37 ^ m := by
  intro m
  induction m with
  | zero => intro _; exact Nat.zero_lt_one
  | succ m ih =>
    intro h
    have h1 := ih (fun i hi => h i (by omega))
    have h2 := h m (by omega)
    rw [e37, Nat.pow_succ]
    omega
theorem vId.lt37 {x : Nat} (h : vId x) : m37 8 x < 2 ^ 64 := by
  obtain ⟨s, a, m, h1, h2, h3, rfl⟩ := h
  rw [e256_m37 m 8 h2 h3]
  have := e37_lt m h3
  have h4 : 37 ^ m ≤ 37 ^ 8 := Nat.pow_le_pow_right (by decide) h2
  have h5 : (37 : Nat) ^ 8 < 2 ^ 64 := by decide
  omega
theorem vId.key {x y : Nat} (hx : vId x) (hy : vId y) : (lN x = lN y ↔ x = y) ∧ (lN (m37 8 x) = lN (m37 8 y) ↔ x = y) := by
  refine ⟨⟨fun e => lN_inj hx.lt hy.lt e, fun e => by rw [e]⟩, ⟨fun e => ?_, fun e => by rw [e]⟩⟩
  have e2 := lN_inj hx.lt37 hy.lt37 e
  obtain ⟨s, a, m, h1, h2, h3, rfl⟩ := hx
  obtain ⟨s2, b, m2, g1, g2, g3, rfl⟩ := hy
  rw [e256_m37 m 8 h2 h3, e256_m37 m2 8 g2 g3] at e2
  exact e37_inj m m2 h3 g3 e2
/-- the words of programs -/
def kwI (k : Nat) : Nat := match k with
  | 1 => 1818584692
  | 2 => 491394656372
  | 3 => 427121668979
  | 4 => 1734440037
  | 5 => 1953653104
  | 6 => 495689496165
  | 7 => 27988572849333618
  | 8 => 6516583
  | 9 => 126879330951543
  | 10 => 7370100
  | 11 => 418346264942
  | 12 => 120299659095922
  | 13 => 7103860
  | 14 => 7697253
  | 15 => 1818324581
  | 16 => 114827837072754
  | 17 => 25209
  | _ => 0
def kwL (k : Nat) : Nat := match k with
  | 1 => 4
  | 2 => 5
  | 3 => 5
  | 4 => 4
  | 5 => 4
  | 6 => 5
  | 7 => 7
  | 8 => 3
  | 9 => 6
  | 10 => 3
  | 11 => 5
  | 12 => 6
  | 13 => 3
  | 14 => 3
  | 15 => 4
  | 16 => 6
  | 17 => 2
  | _ => 1
/-- a text as signs -/
def sgn (l : List Nat) : Nat → Int := fun i => ((l.getD i 0 : Nat) : Int)
theorem kw_v : ∀ k, 1 ≤ k → k ≤ 17 → vId (kwI k) := by
  have hq : ∀ (l : List Nat) (x : Nat), 1 ≤ l.length ∧ l.length ≤ 8 ∧ (∀ i, i < l.length → 97 ≤ l.getD i 0 ∧ l.getD i 0 ≤ 122) → x = e256 (sgn l) 0 l.length → vId x := fun l x h e => ⟨sgn l, 0, l.length, h.1, h.2.1, fun i hi => by
    have := h.2.2 i hi
    unfold sgn
    rw [Nat.zero_add]
    omega, e⟩
  intro k h1 h2
  rcases (show k = 1 ∨ k = 2 ∨ k = 3 ∨ k = 4 ∨ k = 5 ∨ k = 6 ∨ k = 7 ∨ k = 8 ∨ k = 9 ∨ k = 10 ∨ k = 11 ∨ k = 12 ∨ k = 13 ∨ k = 14 ∨ k = 15 ∨ k = 16 ∨ k = 17 by omega) with rfl | rfl | rfl | rfl | rfl | rfl | rfl | rfl | rfl | rfl | rfl | rfl | rfl | rfl | rfl | rfl | rfl
  · exact hq [108, 101, 102, 116] _ (by decide) (by decide)
  · exact hq [114, 105, 103, 104, 116] _ (by decide) (by decide)
  · exact hq [99, 114, 111, 115, 115] _ (by decide) (by decide)
  · exact hq [103, 97, 116, 101] _ (by decide) (by decide)
  · exact hq [116, 114, 97, 112] _ (by decide) (by decide)
  · exact hq [115, 105, 101, 118, 101] _ (by decide) (by decide)
  · exact hq [99, 111, 117, 110, 116, 101, 114] _ (by decide) (by decide)
  · exact hq [99, 111, 103] _ (by decide) (by decide)
  · exact hq [115, 101, 101, 115, 97, 119] _ (by decide) (by decide)
  · exact hq [112, 117, 116] _ (by decide) (by decide)
  · exact hq [97, 103, 97, 105, 110] _ (by decide) (by decide)
  · exact hq [109, 105, 114, 114, 111, 114] _ (by decide) (by decide)
  · exact hq [108, 101, 116] _ (by decide) (by decide)
  · exact hq [117, 115, 101] _ (by decide) (by decide)
  · exact hq [108, 97, 110, 101] _ (by decide) (by decide)
  · exact hq [104, 111, 112, 112, 101, 114] _ (by decide) (by decide)
  · exact hq [98, 121] _ (by decide) (by decide)
theorem kw_len : ∀ k, 1 ≤ k → k ≤ 17 → 256 ^ (kwL k - 1) ≤ kwI k := by
  intro k h1 h2
  rcases (show k = 1 ∨ k = 2 ∨ k = 3 ∨ k = 4 ∨ k = 5 ∨ k = 6 ∨ k = 7 ∨ k = 8 ∨ k = 9 ∨ k = 10 ∨ k = 11 ∨ k = 12 ∨ k = 13 ∨ k = 14 ∨ k = 15 ∨ k = 16 ∨ k = 17 by omega) with rfl | rfl | rfl | rfl | rfl | rfl | rfl | rfl | rfl | rfl | rfl | rfl | rfl | rfl | rfl | rfl | rfl
  · decide
  · decide
  · decide
  · decide
  · decide
  · decide
  · decide
  · decide
  · decide
  · decide
  · decide
  · decide
  · decide
  · decide
  · decide
  · decide
  · decide
def wOf : Nat → Nat → Nat → Int
  | 0, _, _ => 18
  | m + 1, k, x => if kwI k = x then (k : Int) else wOf m (k + 1) x
theorem wOf_r {x : Nat} : ∀ m k, 1 ≤ k → k + m = 18 → (1 ≤ wOf m k x ∧ wOf m k x ≤ 18) ∧ (wOf m k x ≠ 18 → kwI (wOf m k x).toNat = x) ∧ (∀ j : Nat, k ≤ j → j ≤ 17 → kwI j = x → wOf m k x ≠ 18) := by
  intro m
  induction m with
  | zero => intro k h1 h2; exact ⟨by rw [wOf]; omega, fun q => absurd rfl q, fun j h3 h4 => by omega⟩
  | succ m ih =>
    intro k h1 h2
    rw [wOf]
    split
    · rename_i e
      exact ⟨by omega, fun _ => by rw [Int.toNat_natCast]; exact e, fun j _ _ _ => by omega⟩
    · rename_i e
      have := ih (k + 1) (by omega) (by omega)
      refine ⟨this.1, this.2.1, fun j h3 h4 h5 => ?_⟩
      by_cases q : j = k
      · subst q; exact absurd h5 e
      · exact this.2.2 j (by omega) h4 h5
theorem kw_inj : ∀ j, j < 18 → ∀ k, k < 18 → 1 ≤ j → 1 ≤ k → kwI j = kwI k → j = k := by decide
/-- the kind of a WORD with these letters: its own number, or NAME -/
def wKd (x : Nat) : Int := wOf 17 1 x
theorem wKd_r (x : Nat) : 1 ≤ wKd x ∧ wKd x ≤ 18 := (wOf_r 17 1 (by omega) (by omega)).1
theorem wKd_k {x k : Nat} (h1 : 1 ≤ k) (h2 : k ≤ 17) : wKd x = (k : Int) ↔ x = kwI k := by
  have h := wOf_r (x := x) 17 1 (by omega) (by omega)
  constructor
  · intro e
    have := h.2.1 (by show wKd x ≠ 18; omega)
    have e2 : (wOf 17 1 x).toNat = k := by show (wKd x).toNat = k; omega
    rw [e2] at this
    exact this.symm
  · intro e
    have h3 := h.2.2 k h1 h2 e.symm
    have h4 := h.2.1 h3
    have h5 := h.1
    have := kw_inj (wOf 17 1 x).toNat (by omega) k (by omega) (by omega) h1 (h4.trans e)
    show wOf 17 1 x = (k : Int)
    omega
/-- a token's kind -/
def tKd (s : Nat → Int) (a e : Nat) : Int := if srt (s a) = 18 then (if e - a ≤ 8 then wKd (e256 s a (e - a)) else 20) else if srt (s a) = 19 then (if e - a ≤ 3 then 19 else 20) else srt (s a)
theorem e10_lt {s : Nat → Int} {a : Nat} : ∀ m, (∀ i, i < m → 48 ≤ s (a + i) ∧ s (a + i) ≤ 57) → e10 s a m < 10 ^ m := by
  intro m
  induction m with
  | zero => intro _; exact Nat.zero_lt_one
  | succ m ih =>
    intro h
    have h1 := ih (fun i hi => h i (by omega))
    have h2 := h m (by omega)
    rw [e10, Nat.pow_succ]
    omega

