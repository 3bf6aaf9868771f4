/-! A DROP, as the document has it: pc the pieces, sz their sizes, tr their trains, sh what they show -/
def aFlip (pc tr : Nat → Int) (t : Int) (sh : Nat → Int) : Nat → Int := fun q => if q < 156 ∧ tr q = t ∧ pc q = 4 then 1 - sh q else sh q
def aSend (pc sz tr : Nat → Int) (st kd : Int) (p : Nat) (l : Int) (sh : Nat → Int) : Int × (Nat → Int) :=
  if pc p = 1 then (0, sh) else if pc p = 2 then (1, sh) else if pc p = 3 then (l, sh)
  else if pc p = 4 then (sh p, if tr p = st then sh else aFlip pc tr (tr p) sh)
  else if pc p = 6 then (if sz p = kd then 0 else 1, sh)
  else if pc p = 7 then (if (sh p + 1) % sz p = 0 then 1 else 0, va_up sh p ((sh p + 1) % sz p))
  else if pc p = 9 then (sh p, va_up sh p l) else (2, sh)
/-- n rows are left -/
def aDr (pc sz tr : Nat → Int) (st kd : Int) : Nat → Nat → Int → (Nat → Int) → Int × (Nat → Int)
  | 0, x, _, sh => ((x : Int), sh)
  | n + 1, x, l, sh =>
    if pc (13 * (11 - n) + x) = 5 then (256 + 16 * ((11 - n : Nat) : Int), sh)
    else if pc (13 * (11 - n) + x) = 8 then (512 + 16 * ((11 - n : Nat) : Int), sh)
    else if (aSend pc sz tr st kd (13 * (11 - n) + x) l sh).1 = 2 then aDr pc sz tr st kd n x l sh
    else if (aSend pc sz tr st kd (13 * (11 - n) + x) l sh).1 = 0 then
      if x = 0 then (768 + 16 * ((11 - n : Nat) : Int), (aSend pc sz tr st kd (13 * (11 - n) + x) l sh).2) else aDr pc sz tr st kd n (x - 1) 0 (aSend pc sz tr st kd (13 * (11 - n) + x) l sh).2
    else if x = 12 then (768 + 16 * ((11 - n : Nat) : Int), (aSend pc sz tr st kd (13 * (11 - n) + x) l sh).2) else aDr pc sz tr st kd n (x + 1) 1 (aSend pc sz tr st kd (13 * (11 - n) + x) l sh).2
/-- a board is sound -/
def Wfb (pc sz sh : Nat → Int) : Prop := ∀ p, p < 156 → (0 ≤ pc p ∧ pc p ≤ 9) ∧ (0 ≤ sz p ∧ sz p ≤ 9) ∧ (0 ≤ sh p ∧ sh p ≤ 9) ∧ (pc p = 7 → 2 ≤ sz p ∧ sh p < sz p) ∧ (pc p = 4 ∨ pc p = 9 → sh p ≤ 1) ∧ (¬ pc p = 4 → ¬ pc p = 7 → ¬ pc p = 9 → sh p = 0)
theorem aFlip_wf {pc sz tr sh : Nat → Int} {t : Int} (h : Wfb pc sz sh) : Wfb pc sz (aFlip pc tr t sh) := by
  intro p hp
  obtain ⟨h1, h2, h3, h4, h5, h6⟩ := h p hp
  unfold aFlip
  split
  · rename_i hc
    refine ⟨h1, h2, ?_, ?_, ?_, ?_⟩ <;> omega
  · exact ⟨h1, h2, h3, h4, h5, h6⟩
theorem up_wf {pc sz sh : Nat → Int} {p : Nat} {v : Int} (h : Wfb pc sz sh) (hv : 0 ≤ v ∧ v ≤ 9 ∧ (pc p = 7 → v < sz p) ∧ (pc p = 4 ∨ pc p = 9 → v ≤ 1) ∧ (pc p = 4 ∨ pc p = 7 ∨ pc p = 9)) : Wfb pc sz (va_up sh p v) := by
  intro q hq
  obtain ⟨h1, h2, h3, h4, h5, h6⟩ := h q hq
  by_cases e : q = p
  · subst e
    rw [up_at]
    exact ⟨h1, h2, by omega, fun z => ⟨(h4 z).1, hv.2.2.1 z⟩, hv.2.2.2.1, fun a b c => absurd hv.2.2.2.2 (by omega)⟩
  · rw [up_ne e]
    exact ⟨h1, h2, h3, h4, h5, h6⟩
theorem aSend_wf {pc sz tr sh : Nat → Int} {st kd l : Int} {p : Nat} (h : Wfb pc sz sh) (hp : p < 156) (hl : l = 0 ∨ l = 1) : Wfb pc sz (aSend pc sz tr st kd p l sh).2 ∧ ((aSend pc sz tr st kd p l sh).1 = 0 ∨ (aSend pc sz tr st kd p l sh).1 = 1 ∨ (aSend pc sz tr st kd p l sh).1 = 2) := by
  obtain ⟨h1, h2, h3, h4, h5, h6⟩ := h p hp
  unfold aSend
  split
  · exact ⟨h, Or.inl rfl⟩
  split
  · exact ⟨h, Or.inr (Or.inl rfl)⟩
  split
  · exact ⟨h, by simp only; omega⟩
  split
  · rename_i hc
    refine ⟨?_, ?_⟩
    · simp only
      split
      · exact h
      · exact aFlip_wf h
    · simp only
      have := h5 (Or.inl hc)
      omega
  split
  · refine ⟨h, ?_⟩
    simp only
    split
    · exact Or.inl rfl
    · exact Or.inr (Or.inl rfl)
  split
  · rename_i hc
    have a1 := h4 hc
    have a2 := Int.emod_nonneg (sh p + 1) (show sz p ≠ 0 by omega)
    have a3 := Int.emod_lt_of_pos (sh p + 1) (show 0 < sz p by omega)
    refine ⟨up_wf h ⟨by omega, by omega, fun _ => by omega, fun q => by omega, by omega⟩, ?_⟩
    simp only
    split
    · exact Or.inr (Or.inl rfl)
    · exact Or.inl rfl
  split
  · rename_i hc
    refine ⟨up_wf h ⟨by omega, by omega, fun q => by omega, fun q => by omega, by omega⟩, ?_⟩
    simp only
    have := h5 (Or.inr hc)
    omega
  · exact ⟨h, Or.inr (Or.inr rfl)⟩
theorem aSend_2 {pc sz tr sh : Nat → Int} {st kd l : Int} {p : Nat} (h : (aSend pc sz tr st kd p l sh).1 = 2 ∧ (l = 0 ∨ l = 1) ∧ (pc p = 4 ∨ pc p = 9 → sh p ≤ 1)) : (aSend pc sz tr st kd p l sh).2 = sh := by
  revert h
  unfold aSend
  repeat' split
  all_goals (intro h; simp only at h ⊢; try omega)
theorem aSend_n2 {pc sz tr sh : Nat → Int} {st kd l : Int} {p : Nat} (h : (0 ≤ pc p ∧ pc p ≤ 9) ∧ ¬ pc p = 0 ∧ ¬ pc p = 5 ∧ ¬ pc p = 8) (hl : l = 0 ∨ l = 1) (hs : pc p = 4 ∨ pc p = 9 → sh p ≤ 1) : ¬ (aSend pc sz tr st kd p l sh).1 = 2 := by
  unfold aSend
  repeat' split
  all_goals (simp only; try omega)
theorem aDr_wf {pc sz tr : Nat → Int} {st kd : Int} : ∀ (n x : Nat) (l : Int) (sh : Nat → Int), n ≤ 12 → x < 13 → (l = 0 ∨ l = 1) → Wfb pc sz sh → Wfb pc sz (aDr pc sz tr st kd n x l sh).2 ∧ 0 ≤ (aDr pc sz tr st kd n x l sh).1 ∧ (aDr pc sz tr st kd n x l sh).1 < 1024 ∧ ((aDr pc sz tr st kd n x l sh).1 < 256 → (aDr pc sz tr st kd n x l sh).1 < 13)
  | 0, x, l, sh, _, hx, _, h => ⟨h, by simp only [aDr]; omega, by simp only [aDr]; omega, fun _ => by simp only [aDr]; omega⟩
  | n + 1, x, l, sh, hn, hx, hl, h => by
    have hs := aSend_wf (tr := tr) (st := st) (kd := kd) (l := l) (p := 13 * (11 - n) + x) h (by omega) hl
    unfold aDr
    split
    · exact ⟨h, by simp only; omega, by simp only; omega, fun q => by simp only at q ⊢; omega⟩
    split
    · exact ⟨h, by simp only; omega, by simp only; omega, fun q => by simp only at q ⊢; omega⟩
    split
    · exact aDr_wf n x l sh (by omega) hx hl h
    split
    · split
      · exact ⟨hs.1, by simp only; omega, by simp only; omega, fun q => by simp only at q ⊢; omega⟩
      · exact aDr_wf n (x - 1) 0 _ (by omega) (by omega) (Or.inl rfl) hs.1
    · split
      · exact ⟨hs.1, by simp only; omega, by simp only; omega, fun q => by simp only at q ⊢; omega⟩
      · exact aDr_wf n (x + 1) 1 _ (by omega) (by omega) (Or.inr rfl) hs.1
/-- one board's stretch of a row, and its putting back -/
def gB (f : Nat → Int) (w b : Nat) : Nat → Int := fun p => f (w * b + p)
def sB (f : Nat → Int) (w b : Nat) (g : Nat → Int) : Nat → Int := fun j => if w * b ≤ j ∧ j < w * b + w then g (j - w * b) else f j
theorem gB_sB {f g : Nat → Int} {w b p : Nat} (h : p < w) : gB (sB f w b g) w b p = g p := by
  unfold gB sB
  rw [if_pos ⟨by omega, by omega⟩]
  congr 1; omega
theorem sB_in {f g : Nat → Int} {w b p : Nat} (h : p < w) : sB f w b g (w * b + p) = g p := gB_sB h
theorem sB_of {f g : Nat → Int} {w b : Nat} (h : ∀ p, p < w → f (w * b + p) = g p) : f = sB f w b g := by
  funext j; unfold sB
  split
  · rename_i hc
    rw [← h (j - w * b) (by omega)]
    congr 1; omega
  · rfl
theorem sB_out {f g : Nat → Int} {w b j : Nat} (h : j < w * b ∨ w * b + w ≤ j) : sB f w b g j = f j := by
  unfold sB; rw [if_neg (by omega)]
theorem sB_self {f : Nat → Int} {w b : Nat} : sB f w b (gB f w b) = f := by
  funext j; unfold sB gB
  split
  · congr 1; omega
  · rfl
theorem sB_congr {f g h : Nat → Int} {w b : Nat} (e : ∀ p, p < w → g p = h p) : sB f w b g = sB f w b h := by
  funext j; unfold sB
  split
  · exact e _ (by omega)
  · rfl
theorem sB_up {f g : Nat → Int} {w b p : Nat} {v : Int} (h : p < w) : va_up (sB f w b g) (w * b + p) v = sB f w b (va_up g p v) := by
  funext j; unfold sB va_up
  by_cases e : j = w * b + p
  · subst e
    rw [if_pos rfl, if_pos ⟨by omega, by omega⟩, if_pos (by omega)]
  · rw [if_neg e]
    by_cases e2 : w * b ≤ j ∧ j < w * b + w
    · simp only [if_pos e2]
      rw [if_neg (by omega)]
    · simp only [if_neg e2]
theorem sB_sB {f g h : Nat → Int} {w b : Nat} : sB (sB f w b g) w b h = sB f w b h := by
  funext j; unfold sB; split <;> rfl
theorem gB_ne {f g : Nat → Int} {w b c : Nat} (hw : 0 < w) (h : c ≠ b) : ∀ p, p < w → gB (sB f w b g) w c p = gB f w c p := by
  intro p hp
  unfold gB
  refine sB_out ?_
  rcases Nat.lt_or_gt_of_ne h with q | q
  · left
    have : w * (c + 1) ≤ w * b := Nat.mul_le_mul_left _ q
    rw [Nat.mul_add] at this
    omega
  · right
    have : w * (b + 1) ≤ w * c := Nat.mul_le_mul_left _ q
    rw [Nat.mul_add] at this
    omega
/-- the model's board b, with its trains in slot s -/
def mBd (M : pM) (b s : Nat) (pc sz tr sh : Nat → Int) : Prop := (∀ p, p < 156 → M.2.1 328 (156 * b + p) = pc p) ∧ (∀ p, p < 156 → M.2.1 329 (156 * b + p) = sz p) ∧ (∀ p, p < 156 → M.2.1 330 (156 * b + p) = sh p) ∧ (∀ p, p < 156 → M.2.1 335 (156 * s + p) = tr p ∧ -1 ≤ tr p ∧ tr p < 156) ∧ Wfb pc sz sh
theorem mBd.fr {M M2 : pM} {b s : Nat} {pc sz tr sh sh2 : Nat → Int} (h : mBd M b s pc sz tr sh) (hf : fr [330] M M2) (he : M2.2.1 330 = sB (M.2.1 330) 156 b sh2) (hw : Wfb pc sz sh2) : mBd M2 b s pc sz tr sh2 :=
  ⟨fun p hp => by rw [hf.i (by decide)]; exact h.1 p hp, fun p hp => by rw [hf.i (by decide)]; exact h.2.1 p hp, fun p hp => by rw [he, sB_in hp], fun p hp => by rw [hf.i (by decide)]; exact h.2.2.2.1 p hp, hw⟩
