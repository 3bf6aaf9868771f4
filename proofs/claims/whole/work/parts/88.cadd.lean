/-! the class's board while it is drawn -/
def pcc (pc : Nat → Int) : Nat → Nat
  | 0 => 0
  | q + 1 => if pc q = 0 then pcc pc q else pcc pc q + 1
theorem pcc_le {pc : Nat → Int} : ∀ q, pcc pc q ≤ q := by
  intro q
  induction q with
  | zero => exact Nat.le_refl _
  | succ q ih => rw [pcc]; split <;> omega
theorem pcc_up {pc : Nat → Int} {q : Nat} {v : Int} (h0 : pc q = 0) (hv : ¬ v = 0) : ∀ n, pcc (va_up pc q v) n = if q < n then pcc pc n + 1 else pcc pc n := by
  intro n
  induction n with
  | zero => rw [if_neg (by omega)]; rfl
  | succ n ih =>
    rw [pcc, pcc, ih]
    by_cases e : n = q
    · subst e
      rw [up_at, if_neg hv, if_pos h0, if_neg (by omega), if_pos (by omega)]
    · rw [up_ne e]
      by_cases c : q < n
      · rw [if_pos c, if_pos (show q < n + 1 by omega)]
        split <;> rfl
      · rw [if_neg c, if_neg (show ¬ q < n + 1 by omega)]
def CB (M : pM) (D : bD) (sh : Nat → Int) (ix : Nat → Nat) : Prop := ((∀ p, p < 156 → M.2.1 20 p = D.1.1 p) ∧ (∀ p, p < 156 → 0 ≤ M.2.1 21 p ∧ M.2.1 21 p ≤ 9 ∧ (D.1.1 p = 6 ∨ D.1.1 p = 7 → M.2.1 21 p = D.1.2 p)) ∧ (∀ p, p < 156 → M.2.1 22 p = ((4 * ix p : Nat) : Int))) ∧ (Ixw D.1.1 ix ∧ (∀ p, p < 156 → mvg (D.1.1 p) → ix p < mvc D.1.1 156) ∧ BE D.1.1 ix (M.2.2 19 11) sh) ∧ (M.2.1 19 9 = ((pcc D.1.1 156 : Nat) : Int) ∧ M.2.1 19 10 = ((mvc D.1.1 156 : Nat) : Int)) ∧ (∀ h, h < 4 → M.2.1 27 h = D.2.1 h ∧ M.2.1 26 h = ((D.2.2.1 h : Nat) : Int) ∧ M.2.1 28 h = D.2.2.2.2 h) ∧ ∀ x, x < 13 → M.2.1 25 x = D.2.2.2.1 x
theorem BE.add {pc sh : Nat → Int} {ix : Nat → Nat} {st st2 : Int64} {q mc : Nat} {K V : Int} (h : BE pc ix st sh) (hq : q < 156) (h0 : pc q = 0) (hK : mvg K) (hV : 0 ≤ V ∧ V < 16) (hb : ∀ j, j < 64 → bl st2 j = (bl st j || (decide (4 * mc ≤ j) && V.toNat.testBit (j - 4 * mc)))) : BE (va_up pc q K) (va_up ix q mc) st2 (va_up sh q V) := by
  intro j hj
  rw [hb j hj]
  constructor
  · intro h9
    rw [Bool.or_eq_true, Bool.and_eq_true, decide_eq_true_iff] at h9
    rcases h9 with h9 | ⟨h8, h9⟩
    · obtain ⟨p, p1, p2, p3, p4, p5⟩ := (h j hj).mp h9
      have e : p ≠ q := by rintro rfl; unfold mvg at p2; omega
      exact ⟨p, p1, by rw [up_ne e]; exact p2, by rw [up_ne e]; exact p3, by rw [up_ne e]; exact p4, by rw [up_ne e, up_ne e]; exact p5⟩
    · refine ⟨q, hq, by rw [up_at]; exact hK, by rw [up_at]; exact h8, ?_, by rw [up_at, up_at]; exact h9⟩
      rw [up_at]
      refine Classical.byContradiction (fun c => ?_)
      have : V.toNat.testBit (j - 4 * mc) = false := Nat.testBit_lt_two_pow (Nat.lt_of_lt_of_le (show V.toNat < 2 ^ 4 by show V.toNat < 16; omega) (Nat.pow_le_pow_right (by decide) (by omega)))
      rw [this] at h9
      cases h9
  · rintro ⟨p, p1, p2, p3, p4, p5⟩
    rw [Bool.or_eq_true, Bool.and_eq_true, decide_eq_true_iff]
    by_cases e : p = q
    · subst e
      rw [up_at] at p3 p4
      rw [up_at, up_at] at p5
      exact Or.inr ⟨p3, p5⟩
    · rw [up_ne e] at p2 p3 p4
      rw [up_ne e, up_ne e] at p5
      exact Or.inl ((h j hj).mpr ⟨p, p1, p2, p3, p4, p5⟩)
theorem BE.adn {pc sh : Nat → Int} {ix : Nat → Nat} {st : Int64} {q : Nat} {K V : Int} (h : BE pc ix st sh) (h0 : pc q = 0) (hK : ¬ mvg K) : BE (va_up pc q K) ix st (va_up sh q V) := by
  intro j hj
  rw [h j hj]
  constructor
  · rintro ⟨p, p1, p2, p3, p4, p5⟩
    have e : p ≠ q := by rintro rfl; unfold mvg at p2; omega
    exact ⟨p, p1, by rw [up_ne e]; exact p2, p3, p4, by rw [up_ne e]; exact p5⟩
  · rintro ⟨p, p1, p2, p3, p4, p5⟩
    have e : p ≠ q := by rintro rfl; rw [up_at] at p2; exact hK p2
    rw [up_ne e] at p2 p5
    exact ⟨p, p1, p2, p3, p4, p5⟩
theorem Ixw.add {pc : Nat → Int} {ix : Nat → Nat} {q mc : Nat} {K : Int} (h : Ixw pc ix) (hm : ∀ p, p < 156 → mvg (pc p) → ix p < mc) (h16 : mc < 16) : Ixw (va_up pc q K) (va_up ix q mc) := by
  refine ⟨fun p hp => ?_, fun a b ha hb m1 m2 e => ?_⟩
  · by_cases e : p = q
    · rw [e, up_at]; exact h16
    · rw [up_ne e]; exact h.1 p hp
  · by_cases e1 : a = q
    · by_cases e2 : b = q
      · omega
      · rw [e1, up_at, up_ne e2] at e
        rw [up_ne e2] at m2
        have := hm b hb m2
        omega
    · by_cases e2 : b = q
      · rw [e2, up_at, up_ne e1] at e
        rw [up_ne e1] at m1
        have := hm a ha m1
        omega
      · rw [up_ne e1] at m1; rw [up_ne e2] at m2; rw [up_ne e1, up_ne e2] at e
        exact h.2 a b ha hb m1 m2 e
theorem Ixw.adn {pc : Nat → Int} {ix : Nat → Nat} {q : Nat} {K : Int} (h : Ixw pc ix) (hK : ¬ mvg K) : Ixw (va_up pc q K) ix := by
  refine ⟨h.1, fun a b ha hb m1 m2 e => ?_⟩
  have e1 : a ≠ q := by rintro rfl; rw [up_at] at m1; exact hK m1
  have e2 : b ≠ q := by rintro rfl; rw [up_at] at m2; exact hK m2
  rw [up_ne e1] at m1; rw [up_ne e2] at m2
  exact h.2 a b ha hb m1 m2 e
/-- one more piece, that doesn't move -/
theorem CB.adn {M : pM} {D : bD} {sh : Nat → Int} {ix : Nat → Nat} {q : Nat} {K v V Z : Int} (h : CB M D sh ix) (hq : q < 156) (h0 : D.1.1 q = 0) (hK : ¬ mvg K) (hK0 : ¬ K = 0) (hv : 0 ≤ v ∧ v ≤ 9) (hZ : K = 6 ∨ K = 7 → v = Z) : CB (pI (pI (pI M 20 q K) 21 q v) 19 9 ((pcc D.1.1 156 + 1 : Nat) : Int)) (((va_up D.1.1 q K, va_up D.1.2 q Z), D.2)) (va_up sh q V) ix := by
  obtain ⟨⟨h1, h2, h3⟩, ⟨h4, h5, h6⟩, ⟨h7, h8⟩, h9, h10⟩ := h
  have em : mvc (va_up D.1.1 q K) 156 = mvc D.1.1 156 := by rw [mvc_up h0, if_neg (fun c => hK c.2)]
  refine ⟨⟨fun p hp => ?_, fun p hp => ?_, ?_⟩, ⟨h4.adn hK, fun p hp hm => ?_, h6.adn h0 hK⟩, ⟨?_, ?_⟩, ?_, ?_⟩
  · show _ = va_up D.1.1 q K p
    rw [pI_ne (by decide), pI_ne (by decide), pI_eq]
    by_cases e : p = q
    · rw [e, up_at, up_at]
    · rw [up_ne e, up_ne e]; exact h1 p hp
  · show 0 ≤ _ ∧ _ ≤ 9 ∧ (va_up D.1.1 q K p = 6 ∨ va_up D.1.1 q K p = 7 → _ = va_up D.1.2 q Z p)
    rw [pI_ne (by decide), pI_eq, pI_ne (by decide)]
    by_cases e : p = q
    · rw [e, up_at, up_at, up_at]; exact ⟨hv.1, hv.2, hZ⟩
    · rw [up_ne e, up_ne e, up_ne e]; exact h2 p hp
  · rw [pI_ne (by decide), pI_ne (by decide), pI_ne (by decide)]; exact h3
  · have hm : mvg (va_up D.1.1 q K p) := hm
    have e : p ≠ q := by rintro rfl; rw [up_at] at hm; exact hK hm
    rw [up_ne e] at hm
    show ix p < mvc (va_up D.1.1 q K) 156
    rw [em]; exact h5 p hp hm
  · show _ = ((pcc (va_up D.1.1 q K) 156 : Nat) : Int)
    rw [pI_at, pcc_up h0 hK0, if_pos hq]
  · show _ = ((mvc (va_up D.1.1 q K) 156 : Nat) : Int)
    rw [pI_nk (by decide), pI_ne (by decide), pI_ne (by decide), em]; exact h8
  · rw [pI_ne (show (27 : Nat) ≠ 19 by decide), pI_ne (show (27 : Nat) ≠ 21 by decide), pI_ne (show (27 : Nat) ≠ 20 by decide), pI_ne (show (26 : Nat) ≠ 19 by decide), pI_ne (show (26 : Nat) ≠ 21 by decide), pI_ne (show (26 : Nat) ≠ 20 by decide), pI_ne (show (28 : Nat) ≠ 19 by decide), pI_ne (show (28 : Nat) ≠ 21 by decide), pI_ne (show (28 : Nat) ≠ 20 by decide)]; exact h9
  · rw [pI_ne (by decide), pI_ne (by decide), pI_ne (by decide)]; exact h10
/-- one more piece, that moves -/
theorem CB.adm {M : pM} {D : bD} {sh : Nat → Int} {ix : Nat → Nat} {q : Nat} {K v V Z : Int} {x : Int64} (h : CB M D sh ix) (hq : q < 156) (h0 : D.1.1 q = 0) (hK : mvg K) (hv : 0 ≤ v ∧ v ≤ 9) (hZ : K = 6 ∨ K = 7 → v = Z) (hV : 0 ≤ V ∧ V < 16) (h16 : mvc D.1.1 156 < 16) (hb : ∀ j, j < 64 → bl x j = (bl (M.2.2 19 11) j || (decide (4 * mvc D.1.1 156 ≤ j) && V.toNat.testBit (j - 4 * mvc D.1.1 156)))) : CB (pJ (pI (pI (pI (pI (pI M 20 q K) 21 q v) 19 9 ((pcc D.1.1 156 + 1 : Nat) : Int)) 22 q ((4 * mvc D.1.1 156 : Nat) : Int)) 19 10 ((mvc D.1.1 156 + 1 : Nat) : Int)) 19 11 x) (((va_up D.1.1 q K, va_up D.1.2 q Z), D.2)) (va_up sh q V) (va_up ix q (mvc D.1.1 156)) := by
  obtain ⟨⟨h1, h2, h3⟩, ⟨h4, h5, h6⟩, ⟨h7, h8⟩, h9, h10⟩ := h
  have em : mvc (va_up D.1.1 q K) 156 = mvc D.1.1 156 + 1 := by rw [mvc_up h0, if_pos ⟨hq, hK⟩]
  have hK0 : ¬ K = 0 := by unfold mvg at hK; omega
  refine ⟨⟨fun p hp => ?_, fun p hp => ?_, fun p hp => ?_⟩, ⟨h4.add h5 h16, fun p hp hm => ?_, ?_⟩, ⟨?_, ?_⟩, ?_, ?_⟩
  · show (pI (pI (pI (pI (pI M 20 q K) 21 q v) 19 9 ((pcc D.1.1 156 + 1 : Nat) : Int)) 22 q ((4 * mvc D.1.1 156 : Nat) : Int)) 19 10 ((mvc D.1.1 156 + 1 : Nat) : Int)).2.1 20 p = va_up D.1.1 q K p
    rw [pI_ne (by decide), pI_ne (by decide), pI_ne (by decide), pI_ne (by decide), pI_eq]
    by_cases e : p = q
    · rw [e, up_at, up_at]
    · rw [up_ne e, up_ne e]; exact h1 p hp
  · show 0 ≤ (pI (pI (pI (pI (pI M 20 q K) 21 q v) 19 9 ((pcc D.1.1 156 + 1 : Nat) : Int)) 22 q ((4 * mvc D.1.1 156 : Nat) : Int)) 19 10 ((mvc D.1.1 156 + 1 : Nat) : Int)).2.1 21 p ∧ (pI (pI (pI (pI (pI M 20 q K) 21 q v) 19 9 ((pcc D.1.1 156 + 1 : Nat) : Int)) 22 q ((4 * mvc D.1.1 156 : Nat) : Int)) 19 10 ((mvc D.1.1 156 + 1 : Nat) : Int)).2.1 21 p ≤ 9 ∧ (va_up D.1.1 q K p = 6 ∨ va_up D.1.1 q K p = 7 → (pI (pI (pI (pI (pI M 20 q K) 21 q v) 19 9 ((pcc D.1.1 156 + 1 : Nat) : Int)) 22 q ((4 * mvc D.1.1 156 : Nat) : Int)) 19 10 ((mvc D.1.1 156 + 1 : Nat) : Int)).2.1 21 p = va_up D.1.2 q Z p)
    rw [pI_ne (by decide), pI_ne (by decide), pI_ne (by decide), pI_eq, pI_ne (by decide)]
    by_cases e : p = q
    · rw [e, up_at, up_at, up_at]; exact ⟨hv.1, hv.2, hZ⟩
    · rw [up_ne e, up_ne e, up_ne e]; exact h2 p hp
  · show (pI (pI (pI (pI (pI M 20 q K) 21 q v) 19 9 ((pcc D.1.1 156 + 1 : Nat) : Int)) 22 q ((4 * mvc D.1.1 156 : Nat) : Int)) 19 10 ((mvc D.1.1 156 + 1 : Nat) : Int)).2.1 22 p = ((4 * va_up ix q (mvc D.1.1 156) p : Nat) : Int)
    rw [pI_ne (by decide), pI_eq, pI_ne (by decide), pI_ne (by decide), pI_ne (by decide)]
    by_cases e : p = q
    · rw [e, up_at, up_at]
    · rw [up_ne e, up_ne e]; exact h3 p hp
  · have hm : mvg (va_up D.1.1 q K p) := hm
    show va_up ix q _ p < mvc (va_up D.1.1 q K) 156
    rw [em]
    by_cases e : p = q
    · rw [e, up_at]; omega
    · rw [up_ne e] at hm ⊢
      have := h5 p hp hm
      omega
  · rw [pJ_at]
    exact h6.add hq h0 hK hV hb
  · show (pI (pI (pI (pI (pI M 20 q K) 21 q v) 19 9 ((pcc D.1.1 156 + 1 : Nat) : Int)) 22 q ((4 * mvc D.1.1 156 : Nat) : Int)) 19 10 ((mvc D.1.1 156 + 1 : Nat) : Int)).2.1 19 9 = ((pcc (va_up D.1.1 q K) 156 : Nat) : Int)
    rw [pI_nk (by decide), pI_ne (by decide), pI_at, pcc_up h0 hK0, if_pos hq]
  · show (pI (pI (pI (pI (pI M 20 q K) 21 q v) 19 9 ((pcc D.1.1 156 + 1 : Nat) : Int)) 22 q ((4 * mvc D.1.1 156 : Nat) : Int)) 19 10 ((mvc D.1.1 156 + 1 : Nat) : Int)).2.1 19 10 = ((mvc (va_up D.1.1 q K) 156 : Nat) : Int)
    rw [pI_at, em]
  · intro y hy
    have e : ∀ a, 26 ≤ a → a ≤ 28 → (pI (pI (pI (pI (pI M 20 q K) 21 q v) 19 9 ((pcc D.1.1 156 + 1 : Nat) : Int)) 22 q ((4 * mvc D.1.1 156 : Nat) : Int)) 19 10 ((mvc D.1.1 156 + 1 : Nat) : Int)).2.1 a = M.2.1 a := fun a a1 a2 => by rw [pI_ne (by omega), pI_ne (by omega), pI_ne (by omega), pI_ne (by omega), pI_ne (by omega)]
    have := h9 y hy
    rw [← e 27 (by omega) (by omega), ← e 26 (by omega) (by omega), ← e 28 (by omega) (by omega)] at this
    exact this
  · intro y hy
    show (pI (pI (pI (pI (pI M 20 q K) 21 q v) 19 9 ((pcc D.1.1 156 + 1 : Nat) : Int)) 22 q ((4 * mvc D.1.1 156 : Nat) : Int)) 19 10 ((mvc D.1.1 156 + 1 : Nat) : Int)).2.1 25 y = _
    rw [pI_ne (by decide), pI_ne (by decide), pI_ne (by decide), pI_ne (by decide), pI_ne (by decide)]; exact h10 y hy
def okA (a k : Nat) : Prop := (a = 19 ∧ (k = 9 ∨ k = 10)) ∨ (20 ≤ a ∧ a ≤ 22)
def frA (M M2 : pM) : Prop := M2.1 = M.1 ∧ (∀ a k, ¬ okA a k → M2.2.1 a k = M.2.1 a k) ∧ ∀ a k, ¬ (a = 19 ∧ k = 11) → M2.2.2 a k = M.2.2 a k
theorem frA.rf {M : pM} : frA M M := ⟨rfl, fun _ _ _ => rfl, fun _ _ _ => rfl⟩
theorem frA.I {M M1 : pM} {a k : Nat} {z : Int} (h : frA M M1) (ho : okA a k) : frA M (pI M1 a k z) := ⟨h.1, fun b j q => by
  by_cases e : b = a
  · subst e
    by_cases e2 : j = k
    · subst e2; exact absurd ho q
    · rw [pI_nk e2]; exact h.2.1 b j q
  · rw [pI_ne e]; exact h.2.1 b j q, h.2.2⟩
theorem frA.J {M M1 : pM} {z : Int64} (h : frA M M1) : frA M (pJ M1 19 11 z) := ⟨h.1, h.2.1, fun b j q => by
  show pU M1.2.2 19 11 z b j = _
  by_cases e : b = 19
  · subst e
    rw [pU, if_pos rfl, up_ne (fun e => q ⟨rfl, e⟩)]; exact h.2.2 19 j q
  · rw [pU, if_neg e]; exact h.2.2 b j q⟩
set_option maxHeartbeats 4000000 in
theorem c_X0_add {d : Nat} {M : pM} {q : Nat} {K v : Int} {D : bD} {sh : Nat → Int} {ix : Nat → Nat} (hS : sOk M.1) (hB : CB M D sh ix) (hq : q < 156) (h0 : D.1.1 q = 0) (hK : 1 ≤ K ∧ K ≤ 9) (hv : 0 ≤ v ∧ v ≤ 9) (hv2 : K = 4 ∨ K = 9 → v ≤ 1) (hr : mvg K → mvc D.1.1 156 < 16) : Ct (d + 2) 0 0 yX0_add [.ref 19, .int (iI ((q : Nat) : Int)), .int (iI K), .int (iI v)] M (fun v_ M2 => v_ = none ∧ (∃ ix2, CB M2 (((va_up D.1.1 q K, va_up D.1.2 q (if K = 4 ∨ K = 9 then 0 else v)), D.2)) (va_up sh q (if K = 4 ∨ K = 9 then v else 0)) ix2) ∧ frA M M2) := by
  refine ct_in (d := (d + 1)) kX0_add rfl (by decide) (Nat.le_of_ble_eq_true rfl) (by decide) ?_
  show Go (Ct (d + 1)) _ yX0_add cX0_add none 0 0 0 [some (.ref 19), some (.int (iI ((q : Nat) : Int))), some (.int (iI K)), some (.int (iI v))] [] M
  have hp9 := pcc_le (pc := D.1.1) 156
  have hp8 := mvc_le (pc := D.1.1) 156
  refine r_aload0 (pc2 := 1) dX0_add_0 rfl ?_
  refine r_getR (pc2 := 4) dX0_add_1 rfl fX0_9 (hK_19 hS) (hR_19_0 hS) ?_
  refine r_iload1 (pc2 := 5) dX0_add_4 rfl ?_
  refine r_iload2 (pc2 := 6) dX0_add_5 rfl ?_
  refine r_iast (z := K) (pc2 := 7) dX0_add_6 rfl (hK_20 hS) (by decide) q rfl (by omega) ?_
  refine r_aload0 (pc2 := 8) dX0_add_7 rfl ?_
  refine r_getR (pc2 := 11) dX0_add_8 rfl fX0_15 (hK_19 hS) (hR_19_1 hS) ?_
  refine r_iload1 (pc2 := 12) dX0_add_11 rfl ?_
  refine r_iload3 (pc2 := 13) dX0_add_12 rfl ?_
  refine r_iast (z := v) (pc2 := 14) dX0_add_13 rfl (hK_21 hS) (by decide) q rfl (by omega) ?_
  refine r_aload0 (pc2 := 15) dX0_add_14 rfl ?_
  refine r_dup (pc2 := 16) dX0_add_15 rfl rfl ?_
  refine r_getI (z := ((pcc D.1.1 156 : Nat) : Int)) (pc2 := 19) dX0_add_16 rfl (Or.inl fX0_52) (hK_19 hS) hB.2.2.1.1 ?_
  refine r_iconst (pc2 := 20) dX0_add_19 rfl ?_
  refine r_iadd (c := ((pcc D.1.1 156 + 1 : Nat) : Int)) (pc2 := 21) dX0_add_20 rfl (by omega) ?_
  refine r_putI (z := ((pcc D.1.1 156 + 1 : Nat) : Int)) (pc2 := 24) dX0_add_21 rfl fX0_52 (w0_9 _) (hK_19 hS) (by decide) ?_
  refine r_iload2 (pc2 := 25) dX0_add_24 rfl ?_
  refine r_cs1 (pc2 := 28) dX0_add_25 rfl sX0_63 (by decide) (c_X0_isMoving (d := d) (k := K) ⟨by omega, by omega⟩) ?_
  by_cases hmv : K = 4 ∨ K = 7 ∨ K = 9
  · rintro _ M9 ⟨rfl, h9⟩
    rw [h9, if_pos hmv]
    show Go (Ct (d + 1)) _ yX0_add cX0_add none 0 0 28 [some (.ref 19), some (.int (iI ((q : Nat) : Int))), some (.int (iI K)), some (.int (iI v))] [.int (iI 1)] (pI (pI (pI M 20 q K) 21 q v) 19 9 ((pcc D.1.1 156 + 1 : Nat) : Int))
    refine r_ifeq (tgt := 81) (pc2 := 31) dX0_add_28 rfl (by decide) ⟨by omega, by omega⟩ (fun h9 => absurd h9 (by decide)) (fun _ => ?_)
    refine r_aload0 (pc2 := 32) dX0_add_31 rfl ?_
    refine r_getR (pc2 := 35) dX0_add_32 rfl fX0_18 (hK_19 hS) (hR_19_2 hS) ?_
    refine r_iload1 (pc2 := 36) dX0_add_35 rfl ?_
    refine r_iconst (pc2 := 37) dX0_add_36 rfl ?_
    refine r_aload0 (pc2 := 38) dX0_add_37 rfl ?_
    refine r_getI (z := ((mvc D.1.1 156 : Nat) : Int)) (pc2 := 41) dX0_add_38 rfl (Or.inl fX0_56) (hK_19 hS) hB.2.2.1.2 ?_
    refine r_imul (c := ((4 * mvc D.1.1 156 : Nat) : Int)) (pc2 := 42) dX0_add_41 rfl (by omega) ?_
    refine r_iast (z := ((4 * mvc D.1.1 156 : Nat) : Int)) (pc2 := 43) dX0_add_42 rfl (hK_22 hS) (by decide) q rfl (by omega) ?_
    refine r_aload0 (pc2 := 44) dX0_add_43 rfl ?_
    refine r_dup (pc2 := 45) dX0_add_44 rfl rfl ?_
    refine r_getI (z := ((mvc D.1.1 156 : Nat) : Int)) (pc2 := 48) dX0_add_45 rfl (Or.inl fX0_56) (hK_19 hS) hB.2.2.1.2 ?_
    refine r_iconst (pc2 := 49) dX0_add_48 rfl ?_
    refine r_iadd (c := ((mvc D.1.1 156 + 1 : Nat) : Int)) (pc2 := 50) dX0_add_49 rfl (by omega) ?_
    refine r_putI (z := ((mvc D.1.1 156 + 1 : Nat) : Int)) (pc2 := 53) dX0_add_50 rfl fX0_56 (w0_10 _) (hK_19 hS) (by decide) ?_
    refine r_aload0 (pc2 := 54) dX0_add_53 rfl ?_
    refine r_dup (pc2 := 55) dX0_add_54 rfl rfl ?_
    refine r_getJ (z := (M.2.2 19 11)) (pc2 := 58) dX0_add_55 rfl fX0_59 (hK_19 hS) rfl ?_
    refine r_iload2 (pc2 := 59) dX0_add_58 rfl ?_
    refine r_bipush (pc2 := 61) dX0_add_59 rfl (by decide) (by decide) ?_
    refine r_icne (tgt := 68) (pc2 := 64) dX0_add_61 rfl (by decide) ⟨by omega, by omega⟩ ⟨by omega, by omega⟩ (fun b_61 => ?_) (fun b_61 => ?_)
    · refine r_iload3 (pc2 := 69) dX0_add_68 rfl ?_
      refine r_i2l (pc2 := 70) dX0_add_69 rfl ⟨by omega, by omega⟩ ?_
      refine r_aload0 (pc2 := 71) dX0_add_70 rfl ?_
      refine r_getR (pc2 := 74) dX0_add_71 rfl fX0_18 (hK_19 hS) (hR_19_2 hS) ?_
      refine r_iload1 (pc2 := 75) dX0_add_74 rfl ?_
      refine r_iald (z := ((4 * mvc D.1.1 156 : Nat) : Int)) (pc2 := 76) dX0_add_75 rfl (hK_22 hS) q rfl (by omega) (by rw [pI_ne (by decide)]; exact pI_at) ?_
      refine r_lshl (pc2 := 77) dX0_add_76 rfl ?_
      refine r_lor (pc2 := 78) dX0_add_77 rfl ?_
      refine r_putJ (pc2 := 81) dX0_add_78 rfl fX0_59 (w0_11 _) (hK_19 hS) (by decide) ?_
      refine r_ret dX0_add_81 rfl ?_
      refine ⟨rfl, ⟨va_up ix q (mvc D.1.1 156), ?_⟩, (((((frA.rf.I (by unfold okA; omega)).I (by unfold okA; omega)).I (by unfold okA; omega)).I (by unfold okA; omega)).I (by unfold okA; omega)).J⟩
      refine hB.adm hq h0 hmv hv (fun c => by omega) (by rw [if_pos (by omega)]; omega) (hr hmv) (fun j hj => ?_)
      have e9 : (jL v : Int64) = jL ((v.toNat : Nat) : Int) := by rw [show ((v.toNat : Nat) : Int) = v by omega]
      have := hr hmv
      rw [if_pos (by omega), bl_or, e9, bl_shl _ (show 4 * mvc D.1.1 156 < 64 by omega) hj, bl_jL (by omega)]
    · refine r_lconst (pc2 := 65) dX0_add_64 rfl ?_
      refine r_goto (tgt := 77) dX0_add_65 (by decide) ?_
      refine r_lor (pc2 := 78) dX0_add_77 rfl ?_
      refine r_putJ (pc2 := 81) dX0_add_78 rfl fX0_59 (w0_11 _) (hK_19 hS) (by decide) ?_
      refine r_ret dX0_add_81 rfl ?_
      refine ⟨rfl, ⟨va_up ix q (mvc D.1.1 156), ?_⟩, (((((frA.rf.I (by unfold okA; omega)).I (by unfold okA; omega)).I (by unfold okA; omega)).I (by unfold okA; omega)).I (by unfold okA; omega)).J⟩
      refine hB.adm hq h0 hmv hv (fun c => by rw [if_neg (by omega)]) (by rw [if_neg (by omega)]; omega) (hr hmv) (fun j hj => ?_)
      rw [bl_or]
      show (bl _ j || bl (0 : Int64) j) = _
      rw [bl_0, if_neg (by omega)]
      simp
  · rintro _ M9 ⟨rfl, h9⟩
    rw [h9, if_neg hmv]
    show Go (Ct (d + 1)) _ yX0_add cX0_add none 0 0 28 [some (.ref 19), some (.int (iI ((q : Nat) : Int))), some (.int (iI K)), some (.int (iI v))] [.int (iI 0)] (pI (pI (pI M 20 q K) 21 q v) 19 9 ((pcc D.1.1 156 + 1 : Nat) : Int))
    refine r_ifeq (tgt := 81) (pc2 := 31) dX0_add_28 rfl (by decide) ⟨by omega, by omega⟩ (fun _ => ?_) (fun h9 => absurd h9 (by decide))
    refine r_ret dX0_add_81 rfl ?_
    refine ⟨rfl, ⟨ix, ?_⟩, ((frA.rf.I (by unfold okA; omega)).I (by unfold okA; omega)).I (by unfold okA; omega)⟩
    exact hB.adn hq h0 hmv (by omega) hv (fun c => by rw [if_neg (by omega)])
