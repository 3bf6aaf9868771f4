/-! wish: both sides -/
theorem WL.in_ {n : Nat} {f g W : Nat → Int} (h : WL n f g W) {i p : Nat} (hi : i < n) (e : f i = (p : Int)) : 0 ≤ W p := by
  obtain ⟨a, b, c, u, v⟩ := h.2.1 i hi
  rw [e, Int.toNat_natCast] at c
  omega
theorem WL.of {n : Nat} {f g f2 g2 W : Nat → Int} (h : WL n f g W) (e1 : ∀ i, i < n → f2 i = f i) (e2 : ∀ i, i < n → g2 i = g i) : WL n f2 g2 W := by
  refine ⟨h.1, fun i hi => ?_, fun p hp hw => ?_, fun i j hi hj e => ?_⟩
  · rw [e1 i hi, e2 i hi]; exact h.2.1 i hi
  · obtain ⟨i, hi, e⟩ := h.2.2.1 p hp hw
    exact ⟨i, hi, by rw [e1 i hi]; exact e⟩
  · rw [e1 i hi, e1 j hj] at e; exact h.2.2.2 i j hi hj e
/-- one falls out -/
theorem WL.del {n i p : Nat} {f g f2 g2 W : Nat → Int} (sg : Nat → Nat) (h : WL (n + 1) f g W) (hi : i < n + 1) (e : f i = (p : Int)) (h1 : ∀ j, j < n → f2 j = f (sg j) ∧ g2 j = g (sg j) ∧ sg j < n + 1 ∧ sg j ≠ i) (h2 : ∀ j k, j < n → k < n → sg j = sg k → j = k) (h3 : ∀ k, k < n + 1 → k ≠ i → ∃ j, j < n ∧ sg j = k) : WL n f2 g2 (va_up W p (-1)) := by
  have hne : ∀ j, j < n → f (sg j) ≠ (p : Int) := fun j hj c => (h1 j hj).2.2.2 (h.2.2.2 _ _ (h1 j hj).2.2.1 hi (c.trans e.symm))
  refine ⟨by have := h.1; omega, fun j hj => ?_, fun q hq hw => ?_, fun j k hj hk c => ?_⟩
  · obtain ⟨a1, a2, a3, a4⟩ := h1 j hj
    obtain ⟨b1, b2, b3, b4⟩ := h.2.1 (sg j) a3
    rw [a1, a2, up_ne (fun c => hne j hj (by omega))]
    exact ⟨b1, b2, b3, b4⟩
  · by_cases c : q = p
    · subst c; rw [up_at] at hw; omega
    · rw [up_ne c] at hw
      obtain ⟨k, hk, ek⟩ := h.2.2.1 q hq hw
      obtain ⟨j, hj, ej⟩ := h3 k hk (fun c2 => c (by subst c2; rw [e] at ek; omega))
      exact ⟨j, hj, by rw [(h1 j hj).1, ej]; exact ek⟩
  · rw [(h1 j hj).1, (h1 k hk).1] at c
    exact h2 j k hj hk (h.2.2.2 _ _ (h1 j hj).2.2.1 (h1 k hk).2.2.1 c)
theorem WL.ad {n p : Nat} {f g f2 g2 W : Nat → Int} {w : Int} (h : WL n f g W) (hn : n < 12) (hp : p < 156) (hw : 0 ≤ w ∧ w ≤ 1) (h0 : W p < 0) (h1 : ∀ j, j < n → f2 j = f j ∧ g2 j = g j) (e1 : f2 n = (p : Int)) (e2 : g2 n = w) : WL (n + 1) f2 g2 (va_up W p w) := by
  have hne : ∀ j, j < n → f j ≠ (p : Int) := fun j hj c => by have := h.in_ hj c; omega
  refine ⟨by omega, fun j hj => ?_, fun q hq hw2 => ?_, fun j k hj hk c => ?_⟩
  · by_cases c : j = n
    · subst c
      rw [e1, e2, Int.toNat_natCast, up_at]
      exact ⟨by omega, by omega, rfl, hw⟩
    · obtain ⟨b1, b2, b3, b4⟩ := h.2.1 j (by omega)
      rw [(h1 j (by omega)).1, (h1 j (by omega)).2, up_ne (fun c2 => hne j (by omega) (by omega))]
      exact ⟨b1, b2, b3, b4⟩
  · by_cases c : q = p
    · subst c; exact ⟨n, by omega, e1⟩
    · rw [up_ne c] at hw2
      obtain ⟨k, hk, ek⟩ := h.2.2.1 q hq hw2
      exact ⟨k, by omega, by rw [(h1 k hk).1]; exact ek⟩
  · by_cases cj : j = n
    · by_cases ck : k = n
      · omega
      · rw [cj, e1, (h1 k (by omega)).1] at c
        exact absurd c.symm (hne k (by omega))
    · by_cases ck : k = n
      · rw [ck, e1, (h1 j (by omega)).1] at c
        exact absurd c (hne j (by omega))
      · rw [(h1 j (by omega)).1, (h1 k (by omega)).1] at c
        exact h.2.2.2 _ _ (by omega) (by omega) c
theorem WL.pt {n p i : Nat} {f g f2 g2 W : Nat → Int} {w : Int} (h : WL n f g W) (hi : i < n) (e : f i = (p : Int)) (hw : 0 ≤ w ∧ w ≤ 1) (h1 : ∀ j, j < n → f2 j = f j ∧ g2 j = if j = i then w else g j) : WL n f2 g2 (va_up W p w) := by
  refine ⟨h.1, fun j hj => ?_, fun q hq hw2 => ?_, fun j k hj hk c => ?_⟩
  · obtain ⟨b1, b2, b3, b4⟩ := h.2.1 j hj
    rw [(h1 j hj).1, (h1 j hj).2]
    by_cases c : j = i
    · subst c
      rw [if_pos rfl, e, Int.toNat_natCast, up_at]
      rw [e] at b1 b2
      exact ⟨b1, b2, rfl, hw⟩
    · rw [if_neg c, up_ne (fun c2 => c (h.2.2.2 _ _ hj hi (by rw [e]; omega)))]
      exact ⟨b1, b2, b3, b4⟩
  · by_cases c : q = p
    · subst c; exact ⟨i, hi, by rw [(h1 i hi).1]; exact e⟩
    · rw [up_ne c] at hw2
      obtain ⟨k, hk, ek⟩ := h.2.2.1 q hq hw2
      exact ⟨k, hk, by rw [(h1 k hk).1]; exact ek⟩
  · rw [(h1 j hj).1, (h1 k hk).1] at c
    exact h.2.2.2 _ _ hj hk c
/-- the answer of wish, the number of the wishes and the wishes behind it; t: the PIECE has sides -/
abbrev wsT (z : Int) : Prop := z = 4 ∨ z = 9
def wsF (t : Int) (n : Nat) (W : Nat → Int) (p : Nat) (w : Int) : Int × Nat × (Nat → Int) :=
  if w = 2 then (if W p < 0 then (if wsT t then (1, n, W) else (0, n, W)) else (1, n - 1, va_up W p (-1)))
  else (if wsT t then (if W p < 0 then (if n = 12 then (0, n, W) else (1, n + 1, va_up W p w)) else (1, n, va_up W p w)) else (0, n, W))
abbrev wsK (x y w : Int) : Prop := (0 ≤ x ∧ x < 13 ∧ 0 ≤ y ∧ y < 12) ∧ 0 ≤ w ∧ w ≤ 2
/-- whether p stands in the list, and where -/
theorem WL.at_ {n : Nat} {f g W : Nat → Int} (h : WL n f g W) {p : Nat} (hp : p < 156) : (W p < 0 ∧ ∀ i, i < n → f i ≠ (p : Int)) ∨ ∃ i, i < n ∧ f i = (p : Int) ∧ 0 ≤ W p ∧ ∀ j, j < n → j ≠ i → f j ≠ (p : Int) := by
  by_cases c : 0 ≤ W p
  · obtain ⟨i, hi, e⟩ := h.2.2.1 p hp c
    exact Or.inr ⟨i, hi, e, c, fun j hj hn c2 => hn (h.2.2.2 _ _ hj hi (c2.trans e.symm))⟩
  · exact Or.inl ⟨by omega, fun i hi c2 => c (h.in_ hi c2)⟩
set_option maxHeartbeats 4000000 in
theorem lp_X10_indexOf {d : Nat} {Q : pQ} {M : pM} {n q k : Nat} (hS : sOk M.1) (hn : M.2.1 266 3 = (n : Int)) (hn2 : n ≤ 12) (hf : ∀ i, i < n → 0 ≤ M.2.1 267 i ∧ M.2.1 267 i < 156) (hq : q < 156) (hk : k ≤ n) (h1 : ∀ i, i < k → M.2.1 267 i ≠ (q : Int)) (h2 : k < n → M.2.1 267 k = (q : Int)) (hQ : Q (some (.int (iI ((k : Nat) : Int)))) M) :
    ∀ (m i : Nat), i + m = k → Go (Ct d) Q yX10_indexOf cX10_indexOf (some .int) 0 0 2 [some (.ref 266), some (.int (iI ((q : Nat) : Int))), some (.int (iI ((i : Nat) : Int)))] [] M := by
  intro m
  induction m with
  | zero =>
    intro i hm
    obtain rfl : i = k := by omega
    by_cases u : i = n
    · subst u
      refine r_iload2 (pc2 := 3) dX10_indexOf_2 rfl ?_
      refine r_aload0 (pc2 := 4) dX10_indexOf_3 rfl ?_
      refine r_getI (z := ((i : Nat) : Int)) (pc2 := 7) dX10_indexOf_4 rfl (Or.inl fX10_31) (hK_266 hS) hn ?_
      refine r_icge (tgt := 26) (pc2 := 10) dX10_indexOf_7 rfl (by decide) ⟨by omega, by omega⟩ ⟨by omega, by omega⟩ (fun b_7 => ?_) (fun b_7 => ?_)
      · refine r_iload2 (pc2 := 27) dX10_indexOf_26 rfl ?_
        refine r_ireti dX10_indexOf_27 rfl ?_
        exact hQ
      · exact absurd b_7 (by omega)
    · have h9 := h2 (by omega)
      refine r_iload2 (pc2 := 3) dX10_indexOf_2 rfl ?_
      refine r_aload0 (pc2 := 4) dX10_indexOf_3 rfl ?_
      refine r_getI (z := ((n : Nat) : Int)) (pc2 := 7) dX10_indexOf_4 rfl (Or.inl fX10_31) (hK_266 hS) hn ?_
      refine r_icge (tgt := 26) (pc2 := 10) dX10_indexOf_7 rfl (by decide) ⟨by omega, by omega⟩ ⟨by omega, by omega⟩ (fun b_7 => ?_) (fun b_7 => ?_)
      · refine r_iload2 (pc2 := 27) dX10_indexOf_26 rfl ?_
        refine r_ireti dX10_indexOf_27 rfl ?_
        exact hQ
      · refine r_aload0 (pc2 := 11) dX10_indexOf_10 rfl ?_
        refine r_getR (pc2 := 14) dX10_indexOf_11 rfl fX10_11 (hK_266 hS) (hR_266_0 hS) ?_
        refine r_iload2 (pc2 := 15) dX10_indexOf_14 rfl ?_
        refine r_iald (z := ((q : Nat) : Int)) (pc2 := 16) dX10_indexOf_15 rfl (hK_267 hS) i rfl (by omega) h9 ?_
        refine r_iload1 (pc2 := 17) dX10_indexOf_16 rfl ?_
        refine r_iceq (tgt := 26) (pc2 := 20) dX10_indexOf_17 rfl (by decide) ⟨by omega, by omega⟩ ⟨by omega, by omega⟩ (fun b_17 => ?_) (fun b_17 => ?_)
        · refine r_iload2 (pc2 := 27) dX10_indexOf_26 rfl ?_
          refine r_ireti dX10_indexOf_27 rfl ?_
          exact hQ
        · exact absurd b_17 (by omega)
  | succ m ih =>
    intro i hm
    have h9 := h1 i (by omega)
    have h8 := hf i (by omega)
    refine r_iload2 (pc2 := 3) dX10_indexOf_2 rfl ?_
    refine r_aload0 (pc2 := 4) dX10_indexOf_3 rfl ?_
    refine r_getI (z := ((n : Nat) : Int)) (pc2 := 7) dX10_indexOf_4 rfl (Or.inl fX10_31) (hK_266 hS) hn ?_
    refine r_icge (tgt := 26) (pc2 := 10) dX10_indexOf_7 rfl (by decide) ⟨by omega, by omega⟩ ⟨by omega, by omega⟩ (fun b_7 => ?_) (fun b_7 => ?_)
    · refine r_iload2 (pc2 := 27) dX10_indexOf_26 rfl ?_
      refine r_ireti dX10_indexOf_27 rfl ?_
      exact absurd b_7 (by omega)
    · refine r_aload0 (pc2 := 11) dX10_indexOf_10 rfl ?_
      refine r_getR (pc2 := 14) dX10_indexOf_11 rfl fX10_11 (hK_266 hS) (hR_266_0 hS) ?_
      refine r_iload2 (pc2 := 15) dX10_indexOf_14 rfl ?_
      refine r_iald (z := (M.2.1 267 i)) (pc2 := 16) dX10_indexOf_15 rfl (hK_267 hS) i rfl (by omega) rfl ?_
      refine r_iload1 (pc2 := 17) dX10_indexOf_16 rfl ?_
      refine r_iceq (tgt := 26) (pc2 := 20) dX10_indexOf_17 rfl (by decide) ⟨by omega, by omega⟩ ⟨by omega, by omega⟩ (fun b_17 => ?_) (fun b_17 => ?_)
      · refine r_iload2 (pc2 := 27) dX10_indexOf_26 rfl ?_
        refine r_ireti dX10_indexOf_27 rfl ?_
        exact absurd b_17 h9
      · refine r_iinc2 (z := ((i + 1 : Nat) : Int)) (pc2 := 23) dX10_indexOf_20 rfl (by omega) rfl ?_
        refine r_goto (tgt := 2) dX10_indexOf_23 (by decide) ?_
        exact ih (i + 1) (by omega)
set_option maxHeartbeats 4000000 in
theorem c_X10_indexOf {d : Nat} {M : pM} {n q k : Nat} (hS : sOk M.1) (hn : M.2.1 266 3 = (n : Int)) (hn2 : n ≤ 12) (hf : ∀ i, i < n → 0 ≤ M.2.1 267 i ∧ M.2.1 267 i < 156) (hq : q < 156) (hk : k ≤ n) (h1 : ∀ i, i < k → M.2.1 267 i ≠ (q : Int)) (h2 : k < n → M.2.1 267 k = (q : Int)) : Ct (d + 1) 0 0 yX10_indexOf [.ref 266, .int (iI ((q : Nat) : Int))] M (fun v M2 => v = some (.int (iI ((k : Nat) : Int))) ∧ M2 = M) := by
  refine ct_in (d := d) kX10_indexOf rfl (by decide) (Nat.le_of_ble_eq_true rfl) (by decide) ?_
  show Go (Ct d) _ yX10_indexOf cX10_indexOf (some .int) 0 0 0 [some (.ref 266), some (.int (iI ((q : Nat) : Int))), none] [] M
  refine r_iconst (pc2 := 1) dX10_indexOf_0 rfl ?_
  refine r_istore2 (pc2 := 2) dX10_indexOf_1 rfl rfl ?_
  exact lp_X10_indexOf hS hn hn2 hf hq hk h1 h2 ⟨rfl, rfl⟩ k 0 (by omega)
/-- the place in the list, or -1 -/
abbrev fwZ (f : Nat → Int) (q n : Nat) (z : Int) : Prop := (z = -1 ∧ ∀ i, i < n → f i ≠ (q : Int)) ∨ ∃ k : Nat, z = (k : Int) ∧ k < n ∧ f k = (q : Int)
set_option maxHeartbeats 4000000 in
theorem lp_X12_findWish {d : Nat} {Q : pQ} {M : pM} {n q : Nat} (hS : sOk M.1) (hn : M.2.1 317 45 = (n : Int)) (hn2 : n ≤ 12) (hf : ∀ i, i < n → 0 ≤ M.2.1 345 i ∧ M.2.1 345 i < 156) (hq : q < 156) (hQ : ∀ z, fwZ (M.2.1 345) q n z → Q (some (.int (iI z))) M) :
    ∀ (m i : Nat) (z : Int), i + m = n → fwZ (M.2.1 345) q i z → Go (Ct d) Q yX12_findWish cX12_findWish (some .int) 0 0 4 [some (.ref 317), some (.int (iI ((q : Nat) : Int))), some (.int (iI z)), some (.int (iI ((i : Nat) : Int)))] [] M := by
  intro m
  induction m with
  | zero =>
    intro i z hm hz
    obtain rfl : i = n := by omega
    refine r_iload3 (pc2 := 5) dX12_findWish_4 rfl ?_
    refine r_aload0 (pc2 := 6) dX12_findWish_5 rfl ?_
    refine r_getI (z := ((i : Nat) : Int)) (pc2 := 9) dX12_findWish_6 rfl (Or.inl fX12_376) (hK_317 hS) hn ?_
    refine r_icge (tgt := 34) (pc2 := 12) dX12_findWish_9 rfl (by decide) ⟨by omega, by omega⟩ ⟨by omega, by omega⟩ (fun b_9 => ?_) (fun b_9 => ?_)
    · refine r_iload2 (pc2 := 35) dX12_findWish_34 rfl ?_
      refine r_ireti dX12_findWish_35 rfl ?_
      exact hQ z hz
    · exact absurd b_9 (by omega)
  | succ m ih =>
    intro i z hm hz
    have h8 := hf i (by omega)
    refine r_iload3 (pc2 := 5) dX12_findWish_4 rfl ?_
    refine r_aload0 (pc2 := 6) dX12_findWish_5 rfl ?_
    refine r_getI (z := ((n : Nat) : Int)) (pc2 := 9) dX12_findWish_6 rfl (Or.inl fX12_376) (hK_317 hS) hn ?_
    refine r_icge (tgt := 34) (pc2 := 12) dX12_findWish_9 rfl (by decide) ⟨by omega, by omega⟩ ⟨by omega, by omega⟩ (fun b_9 => ?_) (fun b_9 => ?_)
    · refine r_iload2 (pc2 := 35) dX12_findWish_34 rfl ?_
      refine r_ireti dX12_findWish_35 rfl ?_
      exact absurd b_9 (by omega)
    · refine r_aload0 (pc2 := 13) dX12_findWish_12 rfl ?_
      refine r_getR (pc2 := 16) dX12_findWish_13 rfl fX12_138 (hK_317 hS) (hR_317_46 hS) ?_
      refine r_iload3 (pc2 := 17) dX12_findWish_16 rfl ?_
      refine r_iald (z := (M.2.1 345 i)) (pc2 := 18) dX12_findWish_17 rfl (hK_345 hS) i rfl (by omega) rfl ?_
      refine r_iload1 (pc2 := 19) dX12_findWish_18 rfl ?_
      refine r_icne (tgt := 26) (pc2 := 22) dX12_findWish_19 rfl (by decide) ⟨by omega, by omega⟩ ⟨by omega, by omega⟩ (fun b_19 => ?_) (fun b_19 => ?_)
      · refine r_iload2 (pc2 := 27) dX12_findWish_26 rfl ?_
        refine r_istore2 (pc2 := 28) dX12_findWish_27 rfl rfl ?_
        refine r_iinc3 (z := ((i + 1 : Nat) : Int)) (pc2 := 31) dX12_findWish_28 rfl (by omega) rfl ?_
        refine r_goto (tgt := 4) dX12_findWish_31 (by decide) ?_
        refine ih (i + 1) z (by omega) ?_
        rcases hz with ⟨a, b⟩ | ⟨k, a, b, c⟩
        · refine Or.inl ⟨a, fun j hj => ?_⟩
          by_cases u : j = i
          · subst u; exact b_19
          · exact b j (by omega)
        · exact Or.inr ⟨k, a, by omega, c⟩
      · refine r_iload3 (pc2 := 23) dX12_findWish_22 rfl ?_
        refine r_goto (tgt := 27) dX12_findWish_23 (by decide) ?_
        refine r_istore2 (pc2 := 28) dX12_findWish_27 rfl rfl ?_
        refine r_iinc3 (z := ((i + 1 : Nat) : Int)) (pc2 := 31) dX12_findWish_28 rfl (by omega) rfl ?_
        refine r_goto (tgt := 4) dX12_findWish_31 (by decide) ?_
        exact ih (i + 1) _ (by omega) (Or.inr ⟨i, rfl, by omega, by omega⟩)
set_option maxHeartbeats 4000000 in
theorem c_X12_findWish {d : Nat} {M : pM} {n q : Nat} {z : Int} (hS : sOk M.1) (hn : M.2.1 317 45 = (n : Int)) (hn2 : n ≤ 12) (hf : ∀ i, i < n → 0 ≤ M.2.1 345 i ∧ M.2.1 345 i < 156) (hq : q < 156) (hz : fwZ (M.2.1 345) q n z) (hu : ∀ i j, i < n → j < n → M.2.1 345 i = M.2.1 345 j → i = j) : Ct (d + 1) 0 0 yX12_findWish [.ref 317, .int (iI ((q : Nat) : Int))] M (fun v M2 => v = some (.int (iI z)) ∧ M2 = M) := by
  refine ct_in (d := d) kX12_findWish rfl (by decide) (Nat.le_of_ble_eq_true rfl) (by decide) ?_
  show Go (Ct d) _ yX12_findWish cX12_findWish (some .int) 0 0 0 [some (.ref 317), some (.int (iI ((q : Nat) : Int))), none, none] [] M
  refine r_iconst (pc2 := 1) dX12_findWish_0 rfl ?_
  refine r_istore2 (pc2 := 2) dX12_findWish_1 rfl rfl ?_
  refine r_iconst (pc2 := 3) dX12_findWish_2 rfl ?_
  refine r_istore3 (pc2 := 4) dX12_findWish_3 rfl rfl ?_
  refine lp_X12_findWish hS hn hn2 hf hq (fun y hy => ?_) n 0 (-1) (by omega) (Or.inl ⟨rfl, fun i hi => absurd hi (by omega)⟩)
  have e : y = z := by
    rcases hy with ⟨a, b⟩ | ⟨k, a, b, c⟩
    · rcases hz with ⟨a2, b2⟩ | ⟨k2, a2, b2, c2⟩
      · omega
      · exact absurd c2 (b k2 b2)
    · rcases hz with ⟨a2, b2⟩ | ⟨k2, a2, b2, c2⟩
      · exact absurd c (b2 k b)
      · have := hu k k2 b b2 (c.trans c2.symm); omega
  rw [e]; exact ⟨rfl, rfl⟩
