/-! boards as data: ((pieces, sizes), kinds, columns, levers, stocks) -/
abbrev bD : Type := ((Nat → Int) × (Nat → Int)) × (Nat → Int) × (Nat → Nat) × (Nat → Int) × (Nat → Int)
abbrev bT (D : bD) : Nat → Int := tal D.1.1 156
def bOk (D : bD) : Prop := (∀ h, h < 4 → 0 ≤ D.2.1 h ∧ D.2.1 h < 4 ∧ D.2.2.1 h < 13 ∧ 0 ≤ D.2.2.2.2 h ∧ D.2.2.2.2 h ≤ 999) ∧ (∀ x, x < 13 → -1 ≤ D.2.2.2.1 x ∧ D.2.2.2.1 x < 4) ∧ mvc D.1.1 156 ≤ 16
abbrev bH (D : bD) (st : Int) (sh : Nat → Int) (h : Nat) : Int × (Nat → Int) := dHow D.1.1 D.1.2 (bT D) D.2.1 D.2.2.1 st sh h
abbrev bK (D : bD) (sh : Nat → Int) : Prop := Ksh D.1.1 D.1.2 sh
theorem bT_r (D : bD) : ∀ p, -1 ≤ bT D p ∧ bT D p < 156 := fun p => by
  have := (tal_A (pc := D.1.1) 156 (Nat.le_refl _)).1 p
  show -1 ≤ tal D.1.1 156 p ∧ tal D.1.1 156 p < 156
  omega
theorem bH_K {D : bD} {st : Int} {sh : Nat → Int} {h : Nat} (hD : bOk D) (hh : h < 4) (hk : bK D sh) : bK D (bH D st sh h).2 ∧ 0 ≤ (bH D st sh h).1 ∧ (bH D st sh h).1 < 1024 ∧ ((bH D st sh h).1 < 256 → (bH D st sh h).1 < 13) := dHow_K (hD.1 h hh).2.2.1 hk
/-- the class's board at b: what doesn't move -/
def CS (M : pM) (b : Nat) (D : bD) (ix : Nat → Nat) : Prop := cBd M b D.1.1 D.1.2 (bT D) ix ∧ (∀ h, h < 4 → M.2.1 (b + 8) h = D.2.1 h ∧ M.2.1 (b + 7) h = ((D.2.2.1 h : Nat) : Int) ∧ M.2.1 (b + 9) h = D.2.2.2.2 h) ∧ ∀ x, x < 13 → M.2.1 (b + 6) x = D.2.2.2.1 x
theorem CS.of {M M2 : pM} {b : Nat} {D : bD} {ix : Nat → Nat} (h : CS M b D ix) (hf : ∀ k, 1 ≤ k → k ≤ 9 → M2.2.1 (b + k) = M.2.1 (b + k) ∧ M2.2.2 (b + k) = M.2.2 (b + k)) : CS M2 b D ix := by
  obtain ⟨⟨h1, h2, h3, h4, h5, h6⟩, h7, h8⟩ := h
  refine ⟨⟨fun q hq => ?_, fun q hq => ?_, fun q hq => ?_, fun q hq => ?_, fun q hq hp j hj => ?_, h6⟩, fun q hq => ?_, fun q hq => ?_⟩
  · rw [(hf 1 (by omega) (by omega)).1]; exact h1 q hq
  · rw [(hf 2 (by omega) (by omega)).1]; exact h2 q hq
  · rw [(hf 3 (by omega) (by omega)).1]; exact h3 q hq
  · rw [(hf 4 (by omega) (by omega)).1]; exact h4 q hq
  · rw [(hf 5 (by omega) (by omega)).2]; exact h5 q hq hp j hj
  · rw [(hf 8 (by omega) (by omega)).1, (hf 7 (by omega) (by omega)).1, (hf 9 (by omega) (by omega)).1]; exact h7 q hq
  · rw [(hf 6 (by omega) (by omega)).1]; exact h8 q hq
theorem CS_drop {d : Nat} {M : pM} {b h : Nat} {D : bD} {ix : Nat → Nat} {st : Int} {u v0 : Int64} {sh : Nat → Int} (hC : CS M b D ix) (hS : sOk M.1) (hb_b : isB b) (hD : bOk D) (hh : h < 4) (hk : bK D sh) (hE : BE D.1.1 ix v0 sh) (hst : stk D.1.1 (bT D) ix st u) :
    Ct (d + 3) 0 0 yX0_dropFrom [.ref b, .long v0, .int (iI ((h : Nat) : Int)), .long u] M (fun v M2 => v = some (.int (iI (bH D st sh h).1)) ∧ ∃ a2, M2 = pJ M b 12 a2 ∧ BE D.1.1 ix a2 (bH D st sh h).2) := by
  have hh2 := hD.1 h hh
  exact c_X0_dropFrom (tr := bT D) (sz := D.1.2) (kd := D.2.1 h) hS hb_b hh hC.1 hk.1 hE hst (hC.2.1 h hh).1 ⟨by omega, by omega⟩ (hC.2.1 h hh).2.1 (by omega)
/-- the model's board i, its trains in slot s: what doesn't move -/
def MS (M : pM) (i s : Nat) (D : bD) : Prop := (∀ p, p < 156 → M.2.1 328 (156 * i + p) = D.1.1 p ∧ M.2.1 329 (156 * i + p) = D.1.2 p ∧ M.2.1 335 (156 * s + p) = bT D p) ∧ (∀ h, h < 4 → M.2.1 333 (4 * i + h) = D.2.1 h ∧ M.2.1 332 (4 * i + h) = ((D.2.2.1 h : Nat) : Int) ∧ M.2.1 334 (4 * i + h) = D.2.2.2.2 h) ∧ ∀ x, x < 13 → M.2.1 331 (13 * i + x) = D.2.2.2.1 x
def MD (M : pM) (i : Nat) (D : bD) (sh : Nat → Int) : Prop := (∀ p, p < 156 → M.2.1 328 (156 * i + p) = D.1.1 p ∧ M.2.1 329 (156 * i + p) = D.1.2 p ∧ M.2.1 330 (156 * i + p) = sh p) ∧ (∀ h, h < 4 → M.2.1 333 (4 * i + h) = D.2.1 h ∧ M.2.1 332 (4 * i + h) = ((D.2.2.1 h : Nat) : Int) ∧ M.2.1 334 (4 * i + h) = D.2.2.2.2 h) ∧ ∀ x, x < 13 → M.2.1 331 (13 * i + x) = D.2.2.2.1 x
theorem MS.of {M M2 : pM} {i s : Nat} {D : bD} (h : MS M i s D) (hf : ∀ a, a ∈ [328, 329, 331, 332, 333, 334, 335] → M2.2.1 a = M.2.1 a) : MS M2 i s D := by
  obtain ⟨h1, h2, h3⟩ := h
  refine ⟨fun q hq => ?_, fun q hq => ?_, fun q hq => ?_⟩
  · rw [hf 328 (by decide), hf 329 (by decide), hf 335 (by decide)]; exact h1 q hq
  · rw [hf 333 (by decide), hf 332 (by decide), hf 334 (by decide)]; exact h2 q hq
  · rw [hf 331 (by decide)]; exact h3 q hq
theorem MS_drop {d : Nat} {M : pM} {i s h : Nat} {D : bD} {st : Int} {sh : Nat → Int} (hM : MS M i s D) (hS : sOk M.1) (hi : i < 28) (hs : s < 2) (hD : bOk D) (hh : h < 4) (hk : bK D sh) (hsh : ∀ p, p < 156 → M.2.1 330 (156 * i + p) = sh p) (hst : -2 ≤ st ∧ st < 156) :
    Ct (d + 3) 0 0 yX12_drops [.ref 317, .int (iI ((i : Nat) : Int)), .int (iI ((s : Nat) : Int)), .int (iI ((h : Nat) : Int)), .int (iI st)] M (fun v M2 => v = some (.int (iI (bH D st sh h).1)) ∧ fr [330] M M2 ∧ M2.2.1 330 = sB (M.2.1 330) 156 i (bH D st sh h).2) := by
  have hh2 := hD.1 h hh
  exact c_X12_drops (pc := D.1.1) (sz := D.1.2) (tr := bT D) (kd := D.2.1 h) hS hi hs hh hst (hM.2.1 h hh).1 ⟨by omega, by omega⟩ (hM.2.1 h hh).2.1 (by omega) ⟨fun q hq => (hM.1 q hq).1, fun q hq => (hM.1 q hq).2.1, hsh, fun q hq => ⟨(hM.1 q hq).2.2, bT_r D q⟩, hk.1⟩
theorem MS_uncode {d : Nat} {M : pM} {i s : Nat} {D : bD} {sh s2 : Nat → Int} (hM : MS M i s D) (hS : sOk M.1) (hi : i < 28) (hD : bOk D) (hk : bK D sh) (hk2 : bK D s2) (hsh : ∀ p, p < 156 → M.2.1 330 (156 * i + p) = s2 p) :
    Ct (d + 2) 0 0 yX12_uncode [.ref 317, .int (iI ((i : Nat) : Int)), .long (lN (cdN D.1.1 sh 156))] M (fun v M2 => v = none ∧ fr [330] M M2 ∧ M2.2.1 330 = sB (M.2.1 330) 156 i sh) :=
  c_X12_uncode hS hi (fun q hq => (hM.1 q hq).1) (fun q hq => by have := (hk.1 q hq).1; omega) hk.1.lt hD.2.2 (fun q hq hm => by rw [hsh q hq, (hk2.1 q hq).2.2.2.2.2 (by omega) (by omega) (by omega), (hk.1 q hq).2.2.2.2.2 (by omega) (by omega) (by omega)])
theorem MS_code {d : Nat} {M : pM} {i s : Nat} {D : bD} {sh : Nat → Int} (hM : MS M i s D) (hS : sOk M.1) (hi : i < 28) (hD : bOk D) (hk : bK D sh) (hsh : ∀ p, p < 156 → M.2.1 330 (156 * i + p) = sh p) :
    Ct (d + 2) 0 0 yX12_code [.ref 317, .int (iI ((i : Nat) : Int))] M (fun v M2 => v = some (.long (lN (cdN D.1.1 sh 156))) ∧ M2 = M) :=
  c_X12_code hS hi (fun q hq => (hM.1 q hq).1) (fun q hq => by have := (hk.1 q hq).1; omega) hsh hk.1.lt hD.2.2
/-! a search by the lengths of TRIES: A ends it ahead of the noting, B behind it; e where all has been looked through -/
noncomputable def bfs {κ : Type} (A : κ → Nat → Prop) (nx : κ → Nat → κ) (B : κ → Prop) (e : Int) : Nat → Nat → Nat → Nat → (Nat → κ) → (Nat → Int) → (Nat → Int) → Int × (Nat → Int)
  | 0, _, _, _, _, _, _ => (e, fun _ => 0)
  | m + 1, i, h, n, K, P, H => by
    classical exact
      if h = 4 then (if i + 1 < n then bfs A nx B e m (i + 1) 0 n K P H else (e, fun _ => 0))
      else if A (K i) h then ((((trc P H i (i : Int)).length + 1 : Nat) : Int), trp P H i (h : Int))
      else if ∃ j, j < n ∧ K j = nx (K i) h then bfs A nx B e m i (h + 1) n K P H
      else if n = 3000 then (-1, fun _ => 0)
      else if B (nx (K i) h) then ((((trc P H i (i : Int)).length + 1 : Nat) : Int), trp P H i (h : Int))
      else bfs A nx B e m i (h + 1) (n + 1) (va_up K n (nx (K i) h)) (va_up P n (i : Int)) (va_up H n (h : Int))
section BF
variable {κ : Type} {A : κ → Nat → Prop} {nx : κ → Nat → κ} {B : κ → Prop} {e : Int} {m i h n : Nat} {K : Nat → κ} {P H : Nat → Int}
theorem bfs_end (h1 : h = 4) (h2 : ¬ i + 1 < n) : bfs A nx B e (m + 1) i h n K P H = (e, fun _ => 0) := by rw [bfs, if_pos h1, if_neg h2]
theorem bfs_row (h1 : h = 4) (h2 : i + 1 < n) : bfs A nx B e (m + 1) i h n K P H = bfs A nx B e m (i + 1) 0 n K P H := by rw [bfs, if_pos h1, if_pos h2]
theorem bfs_A (h1 : ¬ h = 4) (h2 : A (K i) h) : bfs A nx B e (m + 1) i h n K P H = ((((trc P H i (i : Int)).length + 1 : Nat) : Int), trp P H i (h : Int)) := by rw [bfs, if_neg h1, if_pos h2]
theorem bfs_old (h1 : ¬ h = 4) (h2 : ¬ A (K i) h) (h3 : ∃ j, j < n ∧ K j = nx (K i) h) : bfs A nx B e (m + 1) i h n K P H = bfs A nx B e m i (h + 1) n K P H := by rw [bfs, if_neg h1, if_neg h2, if_pos h3]
theorem bfs_full (h1 : ¬ h = 4) (h2 : ¬ A (K i) h) (h3 : ¬ ∃ j, j < n ∧ K j = nx (K i) h) (h4 : n = 3000) : bfs A nx B e (m + 1) i h n K P H = (-1, fun _ => 0) := by rw [bfs, if_neg h1, if_neg h2, if_neg h3, if_pos h4]
theorem bfs_B (h1 : ¬ h = 4) (h2 : ¬ A (K i) h) (h3 : ¬ ∃ j, j < n ∧ K j = nx (K i) h) (h4 : ¬ n = 3000) (h5 : B (nx (K i) h)) : bfs A nx B e (m + 1) i h n K P H = ((((trc P H i (i : Int)).length + 1 : Nat) : Int), trp P H i (h : Int)) := by rw [bfs, if_neg h1, if_neg h2, if_neg h3, if_neg h4, if_pos h5]
theorem bfs_new (h1 : ¬ h = 4) (h2 : ¬ A (K i) h) (h3 : ¬ ∃ j, j < n ∧ K j = nx (K i) h) (h4 : ¬ n = 3000) (h5 : ¬ B (nx (K i) h)) : bfs A nx B e (m + 1) i h n K P H = bfs A nx B e m i (h + 1) (n + 1) (va_up K n (nx (K i) h)) (va_up P n (i : Int)) (va_up H n (h : Int)) := by rw [bfs, if_neg h1, if_neg h2, if_neg h3, if_neg h4, if_neg h5]
end BF
/-- parents and HOPPERS of what was noted -/
def PHo (n : Nat) (P : Nat → Int) : Prop := P 0 = -1 ∧ ∀ j, 0 < j → j < n → 0 ≤ P j ∧ P j < (j : Int)
theorem PHo.up {n i : Nat} {P : Nat → Int} (h : PHo n P) (hi : i < n) : PHo (n + 1) (va_up P n (i : Int)) := by
  refine ⟨by rw [up_ne (by omega)]; exact h.1, fun j h1 h2 => ?_⟩
  by_cases e : j = n
  · subst e; rw [up_at]; omega
  · rw [up_ne e]; exact h.2 j h1 (by omega)

