/-! feed: both sides; thrown -/
def fdN (a b c : Int64) (t : (Nat → Int) × Nat) : (Nat → Int) × Nat := lyN c 8 (lyN b 8 (lyN a 8 t))
theorem fdN_le {a b c : Int64} {t : (Nat → Int) × Nat} (h : t.2 ≤ 1000) : (fdN a b c t).2 ≤ 1000 := lyN_le 8 (lyN_le 8 (lyN_le 8 h))
set_option maxHeartbeats 4000000 in
theorem c_X11_feed {d : Nat} {M : pM} {a b c : Int64} {n : Nat} (hS : sOk M.1) (hn : M.2.1 3 5 = (n : Int)) (hn2 : n ≤ 1000) : Ct (d + 2) 0 0 yX11_feed [.ref 2, .long (a), .long (b), .long (c)] M (fun v M2 => v = some (.int (iI (((fdN a b c (M.2.1 5, n)).2 : Nat) : Int))) ∧ fr [3, 5] M M2 ∧ M2.2.1 5 = (fdN a b c (M.2.1 5, n)).1 ∧ M2.2.1 3 = va_up (M.2.1 3) 5 (((fdN a b c (M.2.1 5, n)).2 : Nat) : Int)) := by
  refine ct_in (d := (d + 1)) kX11_feed rfl (by decide) (Nat.le_of_ble_eq_true rfl) (by decide) ?_
  show Go (Ct (d + 1)) _ yX11_feed cX11_feed (some .int) 0 0 0 [some (.ref 2), some (.long (a)), none, some (.long (b)), none, some (.long (c)), none] [] M
  refine r_aload0 (pc2 := 1) dX11_feed_0 rfl ?_
  refine r_getR (pc2 := 4) dX11_feed_1 rfl fX11_10 (hK_2 hS) (hR_2_0 hS) ?_
  refine r_lload1 (pc2 := 5) dX11_feed_4 rfl ?_
  refine r_cv1 (pc2 := 8) dX11_feed_5 rfl vX11_98 (hK_3 hS) (by decide) (c_X8_addEight (d := d) (v := a) (n := n) hS hn hn2) ?_
  rintro _ M1 ⟨rfl, f1, e1, g1⟩
  obtain ⟨t1, ht1⟩ : ∃ t, t = lyN a 8 (M.2.1 5, n) := ⟨_, rfl⟩
  have hS1 := f1.ok hS
  have eq1 : (M.2.1 5, n) = (M.2.1 5, n) := rfl
  rw [eq1, ← ht1] at e1 g1
  have a1 : M1.2.1 5 = t1.1 := e1
  have hn1 : M1.2.1 3 5 = ((t1.2 : Nat) : Int) := by rw [g1, up_at]
  have hm1 : t1.2 ≤ 1000 := by rw [ht1]; exact lyN_le 8 hn2
  have u1 : M1.2.1 3 = va_up (M.2.1 3) 5 ((t1.2 : Nat) : Int) := g1
  show Go (Ct (d + 1)) _ yX11_feed cX11_feed (some .int) 0 0 8 [some (.ref 2), some (.long (a)), none, some (.long (b)), none, some (.long (c)), none] [] M1
  refine r_aload0 (pc2 := 9) dX11_feed_8 rfl ?_
  refine r_getR (pc2 := 12) dX11_feed_9 rfl fX11_10 (hK_2 hS1) (hR_2_0 hS1) ?_
  refine r_lload3 (pc2 := 13) dX11_feed_12 rfl ?_
  refine r_cv1 (pc2 := 16) dX11_feed_13 rfl vX11_98 (hK_3 hS1) (by decide) (c_X8_addEight (d := d) (v := b) (n := t1.2) hS1 hn1 hm1) ?_
  rintro _ M2 ⟨rfl, f2, e2, g2⟩
  obtain ⟨t2, ht2⟩ : ∃ t, t = lyN b 8 t1 := ⟨_, rfl⟩
  have hS2 := f2.ok hS1
  have eq2 : (M1.2.1 5, t1.2) = t1 := by rw [a1]
  rw [eq2, ← ht2] at e2 g2
  have a2 : M2.2.1 5 = t2.1 := e2
  have hn2 : M2.2.1 3 5 = ((t2.2 : Nat) : Int) := by rw [g2, up_at]
  have hm2 : t2.2 ≤ 1000 := by rw [ht2]; exact lyN_le 8 hm1
  have u2 : M2.2.1 3 = va_up (M.2.1 3) 5 ((t2.2 : Nat) : Int) := by rw [g2, u1, up_up]
  show Go (Ct (d + 1)) _ yX11_feed cX11_feed (some .int) 0 0 16 [some (.ref 2), some (.long (a)), none, some (.long (b)), none, some (.long (c)), none] [] M2
  refine r_aload0 (pc2 := 17) dX11_feed_16 rfl ?_
  refine r_getR (pc2 := 20) dX11_feed_17 rfl fX11_10 (hK_2 hS2) (hR_2_0 hS2) ?_
  refine r_lload5 (pc2 := 22) dX11_feed_20 rfl ?_
  refine r_cv1 (pc2 := 25) dX11_feed_22 rfl vX11_98 (hK_3 hS2) (by decide) (c_X8_addEight (d := d) (v := c) (n := t2.2) hS2 hn2 hm2) ?_
  rintro _ M3 ⟨rfl, f3, e3, g3⟩
  obtain ⟨t3, ht3⟩ : ∃ t, t = lyN c 8 t2 := ⟨_, rfl⟩
  have hS3 := f3.ok hS2
  have eq3 : (M2.2.1 5, t2.2) = t2 := by rw [a2]
  rw [eq3, ← ht3] at e3 g3
  have a3 : M3.2.1 5 = t3.1 := e3
  have hn3 : M3.2.1 3 5 = ((t3.2 : Nat) : Int) := by rw [g3, up_at]
  have hm3 : t3.2 ≤ 1000 := by rw [ht3]; exact lyN_le 8 hm2
  have u3 : M3.2.1 3 = va_up (M.2.1 3) 5 ((t3.2 : Nat) : Int) := by rw [g3, u2, up_up]
  show Go (Ct (d + 1)) _ yX11_feed cX11_feed (some .int) 0 0 25 [some (.ref 2), some (.long (a)), none, some (.long (b)), none, some (.long (c)), none] [] M3
  refine r_aload0 (pc2 := 26) dX11_feed_25 rfl ?_
  refine r_getR (pc2 := 29) dX11_feed_26 rfl fX11_10 (hK_2 hS3) (hR_2_0 hS3) ?_
  refine r_getI (z := ((t3.2 : Nat) : Int)) (pc2 := 32) dX11_feed_29 rfl (Or.inl fX11_102) (hK_3 hS3) hn3 ?_
  refine r_ireti dX11_feed_32 rfl ?_
  have e : fdN a b c (M.2.1 5, n) = t3 := by rw [fdN, ← ht1, ← ht2, ← ht3]
  rw [e]
  exact ⟨rfl, (f1.tr f2).tr f3, a3, u3⟩
set_option maxHeartbeats 4000000 in
theorem c_X12_feed {d : Nat} {M : pM} {a b c : Int64} {n : Nat} (hS : sOk M.1) (hn : M.2.1 317 2 = (n : Int)) (hn2 : n ≤ 1000) : Ct (d + 2) 0 0 yX12_feed [.ref 317, .long (a), .long (b), .long (c)] M (fun v M2 => v = some (.int (iI (((fdN a b c (M.2.1 318, n)).2 : Nat) : Int))) ∧ fr [317, 318] M M2 ∧ M2.2.1 318 = (fdN a b c (M.2.1 318, n)).1 ∧ M2.2.1 317 2 = (((fdN a b c (M.2.1 318, n)).2 : Nat) : Int) ∧ ∀ j, j ≠ 0 → j ≠ 2 → M2.2.1 317 j = M.2.1 317 j) := by
  refine ct_in (d := (d + 1)) kX12_feed rfl (by decide) (Nat.le_of_ble_eq_true rfl) (by decide) ?_
  show Go (Ct (d + 1)) _ yX12_feed cX12_feed (some .int) 0 0 0 [some (.ref 317), some (.long (a)), none, some (.long (b)), none, some (.long (c)), none] [] M
  refine r_aload0 (pc2 := 1) dX12_feed_0 rfl ?_
  refine r_iconst (pc2 := 2) dX12_feed_1 rfl ?_
  refine r_putI (z := 0) (pc2 := 5) dX12_feed_2 rfl fX12_1 (w12_0 _) (hK_317 hS) (by decide) ?_
  refine r_aload0 (pc2 := 6) dX12_feed_5 rfl ?_
  refine r_lload1 (pc2 := 7) dX12_feed_6 rfl ?_
  obtain ⟨M0, h0⟩ : ∃ M0, M0 = pI M 317 0 0 := ⟨_, rfl⟩
  have hS0 : sOk M0.1 := by rw [h0]; exact hS
  have hn0 : M0.2.1 317 2 = (n : Int) := by rw [h0, pI_nk (by decide)]; exact hn
  have a0 : M0.2.1 318 = M.2.1 318 := by rw [h0, pI_ne (by decide)]
  rw [← h0]
  refine r_cv1 (pc2 := 10) dX12_feed_7 rfl vX12_7 (hK_317 hS0) (by decide) (c_X12_lay (d := d) (v := a) (n := n) hS0 hn0 hn2) ?_
  rintro _ M1 ⟨rfl, f1, e1, g1⟩
  obtain ⟨t1, ht1⟩ : ∃ t, t = lyN a 8 (M.2.1 318, n) := ⟨_, rfl⟩
  have hS1 := f1.ok hS0
  have eq1 : (M0.2.1 318, n) = (M.2.1 318, n) := by rw [a0]
  rw [eq1, ← ht1] at e1 g1
  have a1 : M1.2.1 318 = t1.1 := e1
  have hn1 : M1.2.1 317 2 = ((t1.2 : Nat) : Int) := by rw [g1, up_at]
  have hm1 : t1.2 ≤ 1000 := by rw [ht1]; exact lyN_le 8 hn2
  have u1 : M1.2.1 317 = va_up (M0.2.1 317) 2 ((t1.2 : Nat) : Int) := g1
  show Go (Ct (d + 1)) _ yX12_feed cX12_feed (some .int) 0 0 10 [some (.ref 317), some (.long (a)), none, some (.long (b)), none, some (.long (c)), none] [] M1
  refine r_aload0 (pc2 := 11) dX12_feed_10 rfl ?_
  refine r_lload3 (pc2 := 12) dX12_feed_11 rfl ?_
  refine r_cv1 (pc2 := 15) dX12_feed_12 rfl vX12_7 (hK_317 hS1) (by decide) (c_X12_lay (d := d) (v := b) (n := t1.2) hS1 hn1 hm1) ?_
  rintro _ M2 ⟨rfl, f2, e2, g2⟩
  obtain ⟨t2, ht2⟩ : ∃ t, t = lyN b 8 t1 := ⟨_, rfl⟩
  have hS2 := f2.ok hS1
  have eq2 : (M1.2.1 318, t1.2) = t1 := by rw [a1]
  rw [eq2, ← ht2] at e2 g2
  have a2 : M2.2.1 318 = t2.1 := e2
  have hn2 : M2.2.1 317 2 = ((t2.2 : Nat) : Int) := by rw [g2, up_at]
  have hm2 : t2.2 ≤ 1000 := by rw [ht2]; exact lyN_le 8 hm1
  have u2 : M2.2.1 317 = va_up (M0.2.1 317) 2 ((t2.2 : Nat) : Int) := by rw [g2, u1, up_up]
  show Go (Ct (d + 1)) _ yX12_feed cX12_feed (some .int) 0 0 15 [some (.ref 317), some (.long (a)), none, some (.long (b)), none, some (.long (c)), none] [] M2
  refine r_aload0 (pc2 := 16) dX12_feed_15 rfl ?_
  refine r_lload5 (pc2 := 18) dX12_feed_16 rfl ?_
  refine r_cv1 (pc2 := 21) dX12_feed_18 rfl vX12_7 (hK_317 hS2) (by decide) (c_X12_lay (d := d) (v := c) (n := t2.2) hS2 hn2 hm2) ?_
  rintro _ M3 ⟨rfl, f3, e3, g3⟩
  obtain ⟨t3, ht3⟩ : ∃ t, t = lyN c 8 t2 := ⟨_, rfl⟩
  have hS3 := f3.ok hS2
  have eq3 : (M2.2.1 318, t2.2) = t2 := by rw [a2]
  rw [eq3, ← ht3] at e3 g3
  have a3 : M3.2.1 318 = t3.1 := e3
  have hn3 : M3.2.1 317 2 = ((t3.2 : Nat) : Int) := by rw [g3, up_at]
  have hm3 : t3.2 ≤ 1000 := by rw [ht3]; exact lyN_le 8 hm2
  have u3 : M3.2.1 317 = va_up (M0.2.1 317) 2 ((t3.2 : Nat) : Int) := by rw [g3, u2, up_up]
  show Go (Ct (d + 1)) _ yX12_feed cX12_feed (some .int) 0 0 21 [some (.ref 317), some (.long (a)), none, some (.long (b)), none, some (.long (c)), none] [] M3
  refine r_aload0 (pc2 := 22) dX12_feed_21 rfl ?_
  refine r_getI (z := ((t3.2 : Nat) : Int)) (pc2 := 25) dX12_feed_22 rfl (Or.inl fX12_11) (hK_317 hS3) hn3 ?_
  refine r_ireti dX12_feed_25 rfl ?_
  have e : fdN a b c (M.2.1 318, n) = t3 := by rw [fdN, ← ht1, ← ht2, ← ht3]
  rw [e]
  refine ⟨rfl, fr.tr (M1 := M0) (by rw [h0]; exact fr.rf.I (by decide)) ((f1.tr f2).tr f3), a3, hn3, fun j h1 h2 => ?_⟩
  rw [u3, up_ne h2, h0, pI_nk h1]
set_option maxHeartbeats 4000000 in
theorem c_X12_thrown {d : Nat} {M : pM} {z : Int} (hS : sOk M.1) (hz : M.2.1 317 0 = z) : Ct (d + 1) 0 0 yX12_thrown [.ref 317] M (fun v M2 => v = some (.int (iI z)) ∧ M2 = M) := by
  refine ct_in (d := d) kX12_thrown rfl (by decide) (Nat.le_of_ble_eq_true rfl) (by decide) ?_
  show Go (Ct d) _ yX12_thrown cX12_thrown (some .int) 0 0 0 [some (.ref 317)] [] M
  refine r_aload0 (pc2 := 1) dX12_thrown_0 rfl ?_
  refine r_getI (z := z) (pc2 := 4) dX12_thrown_1 rfl (Or.inl fX12_1) (hK_317 hS) hz ?_
  refine r_ireti dX12_thrown_4 rfl ?_
  exact ⟨rfl, rfl⟩
