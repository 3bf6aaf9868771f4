/-! SUSPECTS: ho, hw the SIGHTS; a suspect: its number, the TRAIN that sticks (-2: none), what the board shows behind all SIGHTS -/
def wg (D : bD) (st : Int) (ho : Nat → Nat) (hw : Nat → Int) : Nat → Nat → (Nat → Int) → Option (Nat → Int)
  | 0, _, sh => some sh
  | m + 1, i, sh => if (bH D st sh (ho i)).1 = hw i then wg D st ho hw m (i + 1) (bH D st sh (ho i)).2 else none
theorem wg_K {D : bD} {st : Int} {ho : Nat → Nat} {hw : Nat → Int} (hD : bOk D) (hh : ∀ i, ho i < 4) : ∀ (m i : Nat) (sh t : Nat → Int), bK D sh → wg D st ho hw m i sh = some t → bK D t := by
  intro m
  induction m with
  | zero => intro i sh t hk h; rw [wg] at h; cases h; exact hk
  | succ m ih =>
    intro i sh t hk h
    rw [wg] at h
    split at h
    · exact ih _ _ _ (bH_K hD (hh i) hk).1 h
    · cases h
abbrev sE : Type := Int × Int × (Nat → Int)
abbrev sS : Type := Nat × (Nat → sE)
def sus1 (D : bD) (ho : Nat → Nat) (hw : Nat → Int) (n : Nat) (s : Nat → Int) (st nu : Int) (S : sS) : sS := match wg D st ho hw n 0 s with
  | none => S
  | some t => (S.1 + 1, va_up S.2 S.1 (nu, st, t))
def fstG (pc tr : Nat → Int) (p : Nat) : Prop := pc p = 4 ∧ ∀ q, q < p → ¬ (pc q = 4 ∧ tr q = tr p)
noncomputable def susN (D : bD) (ho : Nat → Nat) (hw : Nat → Int) (n : Nat) (s : Nat → Int) : Nat → sS
  | 0 => sus1 D ho hw n s (-2) 0 (0, fun _ => (0, 0, fun _ => 0))
  | p + 1 => by classical exact if fstG D.1.1 (bT D) p then sus1 D ho hw n s (bT D p) (1 + (p : Int)) (susN D ho hw n s p) else susN D ho hw n s p
theorem susN_yes {D : bD} {ho : Nat → Nat} {hw : Nat → Int} {n : Nat} {s : Nat → Int} {p : Nat} (h : fstG D.1.1 (bT D) p) : susN D ho hw n s (p + 1) = sus1 D ho hw n s (bT D p) (1 + (p : Int)) (susN D ho hw n s p) := by rw [susN, if_pos h]
theorem susN_no {D : bD} {ho : Nat → Nat} {hw : Nat → Int} {n : Nat} {s : Nat → Int} {p : Nat} (h : ¬ fstG D.1.1 (bT D) p) : susN D ho hw n s (p + 1) = susN D ho hw n s p := by rw [susN, if_neg h]
theorem sus1_le {D : bD} {ho : Nat → Nat} {hw : Nat → Int} {n : Nat} {s : Nat → Int} {st nu : Int} {S : sS} : (sus1 D ho hw n s st nu S).1 ≤ S.1 + 1 := by
  unfold sus1
  split
  · omega
  · exact Nat.le_refl _
theorem mvc_s {pc : Nat → Int} {p : Nat} (h : pc p = 4) : mvc pc (p + 1) = mvc pc p + 1 := by rw [mvc, if_pos (by omega)]
theorem susN_le {D : bD} {ho : Nat → Nat} {hw : Nat → Int} {n : Nat} {s : Nat → Int} : ∀ p, (susN D ho hw n s p).1 ≤ 1 + mvc D.1.1 p := by
  intro p
  induction p with
  | zero =>
    rw [susN]
    have := sus1_le (D := D) (ho := ho) (hw := hw) (n := n) (s := s) (st := -2) (nu := 0) (S := (0, fun _ => (0, 0, fun _ => 0)))
    exact Nat.le_trans this (by omega)
  | succ p ih =>
    by_cases h : fstG D.1.1 (bT D) p
    · rw [susN_yes h, mvc_s h.1]
      have := sus1_le (D := D) (ho := ho) (hw := hw) (n := n) (s := s) (st := bT D p) (nu := 1 + (p : Int)) (S := susN D ho hw n s p)
      omega
    · rw [susN_no h]
      exact Nat.le_trans ih (Nat.add_le_add_left (mvc_mono (by omega)) 1)
/-- what is known of a suspect -/
def sOkE (D : bD) (x : sE) : Prop := bK D x.2.2 ∧ -2 ≤ x.2.1 ∧ x.2.1 < 156
theorem sus1_ok {D : bD} {ho : Nat → Nat} {hw : Nat → Int} {n : Nat} {s : Nat → Int} {st nu : Int} {S : sS} (hD : bOk D) (hh : ∀ i, ho i < 4) (hs : bK D s) (hst : -2 ≤ st ∧ st < 156) (h : ∀ i, i < S.1 → sOkE D (S.2 i)) : ∀ i, i < (sus1 D ho hw n s st nu S).1 → sOkE D ((sus1 D ho hw n s st nu S).2 i) := by
  unfold sus1
  split
  · exact h
  · rename_i t ht
    intro i hi
    have hi : i < S.1 + 1 := hi
    show sOkE D (va_up S.2 S.1 (nu, st, t) i)
    by_cases e : i = S.1
    · subst e; rw [up_at]; exact ⟨wg_K hD hh n 0 s t hs ht, hst⟩
    · rw [up_ne e]; exact h i (by omega)
theorem susN_ok {D : bD} {ho : Nat → Nat} {hw : Nat → Int} {n : Nat} {s : Nat → Int} (hD : bOk D) (hh : ∀ i, ho i < 4) (hs : bK D s) : ∀ p i, i < (susN D ho hw n s p).1 → sOkE D ((susN D ho hw n s p).2 i) := by
  intro p
  induction p with
  | zero => rw [susN]; exact sus1_ok hD hh hs (by omega) (fun i hi => absurd hi (by show ¬ i < 0; omega))
  | succ p ih =>
    by_cases h : fstG D.1.1 (bT D) p
    · rw [susN_yes h]
      have := bT_r D p
      exact sus1_ok hD hh hs (by omega) ih
    · rw [susN_no h]; exact ih
/-! how many end alike -/
def cnt (e : Nat → Int) (v : Int) : Nat → Nat
  | 0 => 0
  | i + 1 => cnt e v i + (if e i = v then 1 else 0)
def mxF (e : Nat → Int) : Nat → Nat
  | 0 => 0
  | i + 1 => max (mxF e i) (cnt e (e i) (i + 1))
def isMx (e : Nat → Int) (n r : Nat) : Prop := (∀ v, cnt e v n ≤ r) ∧ ∃ v, cnt e v n = r
theorem isMx.eq {e : Nat → Int} {n r r2 : Nat} (h : isMx e n r) (h2 : isMx e n r2) : r = r2 := by
  obtain ⟨h1, v, hv⟩ := h
  obtain ⟨h3, w, hw⟩ := h2
  have a := h1 w
  have b := h3 v
  omega
theorem cnt_s {e : Nat → Int} {v : Int} {i : Nat} : cnt e v (i + 1) = cnt e v i + (if e i = v then 1 else 0) := rfl
theorem mxF_is (e : Nat → Int) : ∀ n, isMx e n (mxF e n) := by
  intro n
  induction n with
  | zero => exact ⟨fun v => Nat.le_refl _, 0, rfl⟩
  | succ n ih =>
    obtain ⟨h1, v, hv⟩ := ih
    have hme : mxF e (n + 1) = max (mxF e n) (cnt e (e n) (n + 1)) := rfl
    refine ⟨fun w => ?_, ?_⟩
    · rw [hme]
      by_cases q : e n = w
      · subst q; exact Nat.le_max_right _ _
      · rw [cnt_s, if_neg q]; exact Nat.le_trans (h1 w) (Nat.le_max_left _ _)
    · by_cases q : mxF e n ≤ cnt e (e n) (n + 1)
      · exact ⟨e n, by rw [hme, Nat.max_eq_right q]⟩
      · refine ⟨v, ?_⟩
        rw [hme, Nat.max_eq_left (by omega), cnt_s, hv]
        by_cases q2 : e n = v
        · subst q2; rw [cnt_s, if_pos rfl, hv] at q; omega
        · rw [if_neg q2]; omega
theorem cnt_le {e : Nat → Int} {v : Int} : ∀ n, cnt e v n ≤ n := by
  intro n
  induction n with
  | zero => exact Nat.le_refl _
  | succ n ih => rw [cnt_s]; split <;> omega
theorem cnt_ex {e : Nat → Int} {v : Int} : ∀ n, 0 < cnt e v n → ∃ a, a < n ∧ e a = v := by
  intro n
  induction n with
  | zero => intro h; exact absurd h (Nat.lt_irrefl 0)
  | succ n ih =>
    intro h
    rw [cnt_s] at h
    by_cases q : e n = v
    · exact ⟨n, by omega, q⟩
    · rw [if_neg q] at h
      obtain ⟨a, a1, a2⟩ := ih (by omega)
      exact ⟨a, by omega, a2⟩
theorem mx_of {e : Nat → Int} {n r : Nat} (h1 : ∀ a, a < n → cnt e (e a) n ≤ r) (h2 : r = 0 ∨ ∃ a, a < n ∧ cnt e (e a) n = r) : isMx e n r := by
  have h3 : ∀ v, cnt e v n ≤ r := fun v => by
    by_cases q : 0 < cnt e v n
    · obtain ⟨a, a1, a2⟩ := cnt_ex n q
      rw [← a2]; exact h1 a a1
    · omega
  refine ⟨h3, ?_⟩
  rcases h2 with h2 | ⟨a, a1, a2⟩
  · exact ⟨0, by have := h3 0; omega⟩
  · exact ⟨_, a2⟩
theorem mxF_le {e : Nat → Int} {n : Nat} : mxF e n ≤ n := by
  obtain ⟨h, v, hv⟩ := mxF_is e n
  rw [← hv]; exact cnt_le n
theorem cnt_congr {e f : Nat → Int} {v : Int} : ∀ n, (∀ i, i < n → e i = f i) → cnt e v n = cnt f v n := by
  intro n
  induction n with
  | zero => intro _; rfl
  | succ n ih => intro h; rw [cnt_s, cnt_s, ih (fun i hi => h i (by omega)), h n (by omega)]
theorem mxF_congr {e f : Nat → Int} : ∀ n, (∀ i, i < n → e i = f i) → mxF e n = mxF f n := by
  intro n
  induction n with
  | zero => intro _; rfl
  | succ n ih => intro h; rw [mxF, mxF, ih (fun i hi => h i (by omega)), h n (by omega), cnt_congr (n + 1) h]
/-- THE BEST TEST of the HOPPERS below h; mx: the greatest number that end alike -/
def bst (mx : Nat → Nat) : Nat → Int
  | 0 => -1
  | h + 1 => if bst mx h = -1 ∨ mx h < mx (bst mx h).toNat then (h : Int) else bst mx h
theorem bst_r {mx : Nat → Nat} : ∀ h, -1 ≤ bst mx h ∧ (bst mx h = -1 ↔ h = 0) ∧ (bst mx h < (h : Int)) := by
  intro h
  induction h with
  | zero => exact ⟨Int.le_refl _, ⟨fun _ => rfl, fun _ => rfl⟩, by show (-1 : Int) < 0; decide⟩
  | succ h ih =>
    rw [bst]
    split
    · exact ⟨by omega, by omega, by omega⟩
    · rename_i q
      exact ⟨by omega, by omega, by omega⟩
/-- how the suspects' next DROP of a HOPPER ends -/
def sEn (D : bD) (S : sS) (h : Nat) : Nat → Int := fun i => (bH D (S.2 i).2.1 (S.2 i).2.2 h).1
def sBst (D : bD) (S : sS) : Int := if S.1 = 0 then -1 else bst (fun h => mxF (sEn D S h) S.1) 4

