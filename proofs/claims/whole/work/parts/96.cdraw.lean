/-! the class's draw -/
def CF (M : pM) (b : Nat) (X : bS) (ix : Nat → Nat) : Prop := CS M b X.1 ix ∧ BE X.1.1.1 ix (M.2.2 b 11) X.2 ∧ (∀ p, p < 156 → mvg (X.1.1.1 p) → ix p < mvc X.1.1.1 156) ∧ M.2.1 b 9 = ((pcc X.1.1.1 156 : Nat) : Int) ∧ M.2.1 b 10 = ((mvc X.1.1.1 156 : Nat) : Int)
theorem CF.of {M M2 : pM} {b : Nat} {X : bS} {ix : Nat → Nat} (h : CF M b X ix) (hf : ∀ a, b ≤ a → a ≤ b + 9 → M2.2.1 a = M.2.1 a ∧ M2.2.2 a = M.2.2 a) : CF M2 b X ix := by
  obtain ⟨h1, h2, h3, h4, h5⟩ := h
  have e := hf b (by omega) (by omega)
  exact ⟨h1.of (fun k k1 k2 => hf (b + k) (by omega) (by omega)), by rw [e.2]; exact h2, h3, by rw [e.1]; exact h4, by rw [e.1]; exact h5⟩
theorem CF.cp {M M2 : pM} {s t : Nat} {X : bS} {ix : Nat → Nat} (h : CF M s X ix) (hc : cCp M M2 s t) : CF M2 t X ix := by
  obtain ⟨⟨⟨h1, h2, h3, h4, h5, h6⟩, h7, h8⟩, g2, g3, g4, g5⟩ := h
  obtain ⟨c0, c1, c2, c3, c4, c5, c6⟩ := hc
  refine ⟨⟨⟨fun q hq => ?_, fun q hq => ?_, fun q hq => ?_, fun q hq => ?_, fun q hq hp j hj => ?_, h6⟩, fun q hq => ?_, fun q hq => ?_⟩, by rw [c6]; exact g2, g3, by rw [c4]; exact g4, by rw [c5]; exact g5⟩
  · rw [(c1 q hq).1]; exact h1 q hq
  · rw [(c1 q hq).2.1]; exact h2 q hq
  · rw [(c1 q hq).2.2.1]; exact h3 q hq
  · rw [(c1 q hq).2.2.2.1]; exact h4 q hq
  · rw [(c1 q hq).2.2.2.2]; exact h5 q hq hp j hj
  · rw [(c3 q hq).1, (c3 q hq).2.1, (c3 q hq).2.2]; exact h7 q hq
  · rw [c2 q hq]; exact h8 q hq
theorem CF.cpo {M M2 : pM} {s t b : Nat} {X : bS} {ix : Nat → Nat} (h : CF M b X ix) (hb : isB b) (ht : isB t) (hbt : b ≠ t) (hc : cCp M M2 s t) : CF M2 b X ix :=
  h.of (fun a a1 a2 => hc.1.2 a (bcl_not (by have := isB_far hb ht hbt; omega)))
theorem CF.cb {M : pM} {X : bS} {ix : Nat → Nat} (h : CF M 19 X ix) : CB M X.1 X.2 ix := ⟨⟨h.1.1.1, h.1.1.2.1, h.1.1.2.2.1⟩, ⟨h.1.1.2.2.2.2.2, h.2.2.1, h.2.1⟩, ⟨h.2.2.2.1, h.2.2.2.2⟩, h.1.2.1, h.1.2.2⟩
theorem CB.cf {M : pM} {D : bD} {sh : Nat → Int} {ix : Nat → Nat} (h : CB M D sh ix) (hs : CS M 19 D ix) : CF M 19 (D, sh) ix := ⟨hs, h.2.1.2.2, h.2.1.2.1, h.2.2.1.1, h.2.2.1.2⟩
theorem pB_is : ∀ i, i < 21 → isB (42 + 10 * i) := by unfold isB; decide
theorem hR41 {M : pM} (h : sOk M.1) {i : Nat} (hi : i < 21) : M.1.2.2 41 i = some (42 + 10 * i) := by
  rw [h.2.1 41 i (by decide) (by decide)]
  have : ∀ i, i < 21 → r0 41 i = some (42 + 10 * i) := by decide
  exact this i hi
def CPa (M : pM) (B : Nat → bS) (k f : Nat) : Prop := (M.2.1 40 1 = (f : Int) ∧ M.2.1 40 2 = (k : Int) ∧ f < 21 ∧ k ≤ 20) ∧ ∀ i, i < k → ∃ ix, CF M (42 + 10 * ((f + i) % 21)) (B (5 + i)) ix
theorem CPa.of {M M2 : pM} {B : Nat → bS} {k f : Nat} (h : CPa M B k f) (h40 : M2.2.1 40 = M.2.1 40) (hf : ∀ a, 42 ≤ a → a ≤ 251 → M2.2.1 a = M.2.1 a ∧ M2.2.2 a = M.2.2 a) : CPa M2 B k f :=
  ⟨by rw [h40]; exact h.1, fun i hi => by
    obtain ⟨ix, h9⟩ := h.2 i hi
    exact ⟨ix, h9.of (fun a a1 a2 => hf a (by omega) (by omega))⟩⟩
set_option maxHeartbeats 4000000 in
theorem c_X3_spare {d : Nat} {M : pM} {f k : Nat} (hS : sOk M.1) (hf : M.2.1 40 1 = (f : Int)) (hk : M.2.1 40 2 = (k : Int)) (hf2 : f < 21) (hk2 : k ≤ 20) : Ct (d + 1) 0 0 yX3_spare [.ref 40] M (fun v M2 => v = some (.ref (42 + 10 * ((f + k) % 21))) ∧ M2 = M) := by
  refine ct_in (d := d) kX3_spare rfl (by decide) (Nat.le_of_ble_eq_true rfl) (by decide) ?_
  show Go (Ct d) _ yX3_spare cX3_spare (some (.object "MarbleWorks$Board")) 0 0 0 [some (.ref 40)] [] M
  refine r_aload0 (pc2 := 1) dX3_spare_0 rfl ?_
  refine r_getR (pc2 := 4) dX3_spare_1 rfl fX3_11 (hK_40 hS) (hR_40_0 hS) ?_
  refine r_aload0 (pc2 := 5) dX3_spare_4 rfl ?_
  refine r_getI (z := ((f : Nat) : Int)) (pc2 := 8) dX3_spare_5 rfl (Or.inl fX3_16) (hK_40 hS) hf ?_
  refine r_aload0 (pc2 := 9) dX3_spare_8 rfl ?_
  refine r_getI (z := ((k : Nat) : Int)) (pc2 := 12) dX3_spare_9 rfl (Or.inl fX3_20) (hK_40 hS) hk ?_
  refine r_iadd (c := ((f + k : Nat) : Int)) (pc2 := 13) dX3_spare_12 rfl (by omega) ?_
  refine r_bipush (pc2 := 15) dX3_spare_13 rfl (by decide) (by decide) ?_
  refine r_irem (pc2 := 16) dX3_spare_15 rfl (by omega) (by omega) (by omega) (by omega) ?_
  refine r_aald (pc2 := 17) dX3_spare_16 rfl (hK_41 hS) ((f + k) % 21) (by omega) (by omega) (hR41 hS (by omega)) ?_
  exact go_aret dX3_spare_17 rfl ⟨rfl, rfl⟩
set_option maxHeartbeats 4000000 in
theorem c_X3_keepSpare {d : Nat} {M : pM} {f k : Nat} (hS : sOk M.1) (hf : M.2.1 40 1 = (f : Int)) (hk : M.2.1 40 2 = (k : Int)) (hf2 : f < 21) (hk2 : k ≤ 20) : Ct (d + 1) 0 0 yX3_keepSpare [.ref 40] M (fun v M2 => v = none ∧ M2 = if k < 20 then pI M 40 2 ((k + 1 : Nat) : Int) else pI M 40 1 (((f + 1) % 21 : Nat) : Int)) := by
  refine ct_in (d := d) kX3_keepSpare rfl (by decide) (Nat.le_of_ble_eq_true rfl) (by decide) ?_
  show Go (Ct d) _ yX3_keepSpare cX3_keepSpare none 0 0 0 [some (.ref 40)] [] M
  refine r_aload0 (pc2 := 1) dX3_keepSpare_0 rfl ?_
  refine r_getI (z := ((k : Nat) : Int)) (pc2 := 4) dX3_keepSpare_1 rfl (Or.inl fX3_20) (hK_40 hS) hk ?_
  refine r_bipush (pc2 := 6) dX3_keepSpare_4 rfl (by decide) (by decide) ?_
  refine r_icge (tgt := 22) (pc2 := 9) dX3_keepSpare_6 rfl (by decide) ⟨by omega, by omega⟩ ⟨by omega, by omega⟩ (fun b_6 => ?_) (fun b_6 => ?_)
  · refine r_aload0 (pc2 := 23) dX3_keepSpare_22 rfl ?_
    refine r_aload0 (pc2 := 24) dX3_keepSpare_23 rfl ?_
    refine r_getI (z := ((f : Nat) : Int)) (pc2 := 27) dX3_keepSpare_24 rfl (Or.inl fX3_16) (hK_40 hS) hf ?_
    refine r_iconst (pc2 := 28) dX3_keepSpare_27 rfl ?_
    refine r_iadd (c := ((f + 1 : Nat) : Int)) (pc2 := 29) dX3_keepSpare_28 rfl (by omega) ?_
    refine r_bipush (pc2 := 31) dX3_keepSpare_29 rfl (by decide) (by decide) ?_
    refine r_irem (pc2 := 32) dX3_keepSpare_31 rfl (by omega) (by omega) (by omega) (by omega) ?_
    refine r_putI (z := (((f + 1 : Nat) : Int) % 21)) (pc2 := 35) dX3_keepSpare_32 rfl fX3_16 (w3_1 _) (hK_40 hS) (by decide) ?_
    refine r_ret dX3_keepSpare_35 rfl ?_
    refine ⟨rfl, ?_⟩
    rw [if_neg (by omega), show ((f + 1 : Nat) : Int) % 21 = (((f + 1) % 21 : Nat) : Int) by omega]
  · refine r_aload0 (pc2 := 10) dX3_keepSpare_9 rfl ?_
    refine r_dup (pc2 := 11) dX3_keepSpare_10 rfl rfl ?_
    refine r_getI (z := ((k : Nat) : Int)) (pc2 := 14) dX3_keepSpare_11 rfl (Or.inl fX3_20) (hK_40 hS) hk ?_
    refine r_iconst (pc2 := 15) dX3_keepSpare_14 rfl ?_
    refine r_iadd (c := ((k + 1 : Nat) : Int)) (pc2 := 16) dX3_keepSpare_15 rfl (by omega) ?_
    refine r_putI (z := ((k + 1 : Nat) : Int)) (pc2 := 19) dX3_keepSpare_16 rfl fX3_20 (w3_2 _) (hK_40 hS) (by decide) ?_
    refine r_goto (tgt := 35) dX3_keepSpare_19 (by decide) ?_
    refine r_ret dX3_keepSpare_35 rfl ?_
    refine ⟨rfl, ?_⟩
    rw [if_pos (by omega)]
set_option maxHeartbeats 4000000 in
theorem c_X11_forgetSearches {d : Nat} {M : pM}  (hS : sOk M.1) : Ct (d + 1) 0 0 yX11_forgetSearches [.ref 2] M (fun v M2 => v = none ∧ M2 = pI (pI M 263 0 (-1)) 266 4 0) := by
  refine ct_in (d := d) kX11_forgetSearches rfl (by decide) (Nat.le_of_ble_eq_true rfl) (by decide) ?_
  show Go (Ct d) _ yX11_forgetSearches cX11_forgetSearches none 0 0 0 [some (.ref 2)] [] M
  refine r_aload0 (pc2 := 1) dX11_forgetSearches_0 rfl ?_
  refine r_getR (pc2 := 4) dX11_forgetSearches_1 rfl fX11_73 (hK_2 hS) (hR_2_9 hS) ?_
  refine r_iconst (pc2 := 5) dX11_forgetSearches_4 rfl ?_
  refine r_putI (z := (-1)) (pc2 := 8) dX11_forgetSearches_5 rfl fX11_270 (w5_0 _) (hK_263 hS) (by decide) ?_
  refine r_aload0 (pc2 := 9) dX11_forgetSearches_8 rfl ?_
  refine r_getR (pc2 := 12) dX11_forgetSearches_9 rfl fX11_87 (hK_2 hS) (hR_2_11 hS) ?_
  refine r_iconst (pc2 := 13) dX11_forgetSearches_12 rfl ?_
  refine r_putZ (z := 0) (pc2 := 16) dX11_forgetSearches_13 rfl fX11_273 (w10_4 _) (hK_266 hS) (by decide) (by omega) ?_
  refine r_ret dX11_forgetSearches_16 rfl ?_
  exact ⟨rfl, rfl⟩
def frW (M M2 : pM) : Prop := M2.1 = M.1 ∧ (∀ a, a ≤ 2 ∨ a = 4 ∨ a = 5 ∨ (252 ≤ a ∧ a ≠ 263 ∧ a ≠ 266) → M2.2.1 a = M.2.1 a ∧ M2.2.2 a = M.2.2 a) ∧ (∀ j, j ≠ 0 → M2.2.1 263 j = M.2.1 263 j) ∧ (∀ j, j ≠ 4 → M2.2.1 266 j = M.2.1 266 j) ∧ M2.2.1 3 5 = 0 ∧ (∀ j, j ≠ 5 → j ≠ 6 → M2.2.1 3 j = M.2.1 3 j)
def DCq (s : Nat → Int) (L k f : Nat) (B : Nat → bS) (M M2 : pM) : Prop := frW M M2 ∧
  (¬ dwV s L (B 0) = 0 → (∃ ix, CF M2 19 (B 0) ix) ∧ CPa M2 B k f ∧ M2.2.1 29 15 = M.2.1 29 15 ∧ M2.2.1 263 0 = M.2.1 263 0 ∧ M2.2.1 266 4 = M.2.1 266 4) ∧
  (dwV s L (B 0) = 0 → (∃ ix, CF M2 19 ((dwR s L (B 0)).1, (dwR s L (B 0)).2.1) ix) ∧ (∃ f2, CPa M2 (keB k (va_up (va_up B 25 (B 0)) 0 ((dwR s L (B 0)).1, (dwR s L (B 0)).2.1))) (keN k) f2) ∧ M2.2.1 29 15 = (((dwR s L (B 0)).2.2.2.1 : Nat) : Int) ∧ M2.2.1 263 0 = -1 ∧ M2.2.1 266 4 = 0)
theorem keB_20 {B B2 : Nat → bS} {i : Nat} (hi : i < 20) (e : ∀ j, 5 ≤ j → j < 25 → B2 j = B j) : keB 20 B2 (5 + i) = if i < 19 then B (5 + i + 1) else B2 25 := by
  unfold keB
  rw [if_pos rfl]
  by_cases c : i = 19
  · rw [c, if_neg (by decide)]; exact up_at
  · rw [up_ne (by omega), if_pos (by omega)]
    unfold shB
    rw [if_pos (by omega), e _ (by omega) (by omega)]
/-- the ring goes on -/
theorem CPa.kp {M M2 : pM} {B B2 : Nat → bS} {k f : Nat} {X : bS} {ix : Nat → Nat} (h : CPa M B k f) (hx : CF M (42 + 10 * ((f + k) % 21)) X ix) (e1 : ∀ j, 5 ≤ j → j < 25 → B2 j = B j) (e2 : B2 25 = X) (hM : M2 = if k < 20 then pI M 40 2 ((k + 1 : Nat) : Int) else pI M 40 1 (((f + 1) % 21 : Nat) : Int)) : ∃ f2, CPa M2 (keB k B2) (keN k) f2 := by
  obtain ⟨⟨h1, h2, h3, h4⟩, h5⟩ := h
  have hof : ∀ {b : Nat} {Y : bS} {iy : Nat → Nat}, 42 ≤ b → CF M b Y iy → CF M2 b Y iy := fun hb q => q.of (fun a a1 a2 => by rw [hM]; split <;> exact ⟨pI_ne (by omega), rfl⟩)
  by_cases c : k < 20
  · rw [if_pos c] at hM
    refine ⟨f, ⟨?_, ?_, h3, ?_⟩, fun i hi => ?_⟩
    · rw [hM, pI_nk (by decide)]; exact h1
    · unfold keN; rw [if_neg (by omega), hM, pI_at]
    · unfold keN; rw [if_neg (by omega)]; omega
    · have hi : i < k + 1 := by unfold keN at hi; rw [if_neg (by omega)] at hi; exact hi
      unfold keB
      rw [if_neg (by omega)]
      by_cases e : i = k
      · rw [e, up_at, e2]; exact ⟨ix, hof (by omega) hx⟩
      · rw [up_ne (by omega), e1 _ (by omega) (by omega)]
        obtain ⟨iy, h9⟩ := h5 i (by omega)
        exact ⟨iy, hof (by omega) h9⟩
  · obtain rfl : k = 20 := by omega
    rw [if_neg c] at hM
    refine ⟨(f + 1) % 21, ⟨?_, ?_, by omega, ?_⟩, fun i hi => ?_⟩
    · rw [hM, pI_at]
    · rw [hM, pI_nk (by decide)]; exact h2
    · exact Nat.le_refl 20
    · have hi : i < 20 := hi
      rw [keB_20 hi e1]
      by_cases e : i < 19
      · rw [if_pos e]
        obtain ⟨iy, h9⟩ := h5 (i + 1) (by omega)
        rw [show (f + (i + 1)) % 21 = ((f + 1) % 21 + i) % 21 by omega] at h9
        exact ⟨iy, hof (by omega) h9⟩
      · rw [if_neg e, e2]
        rw [show (f + 20) % 21 = ((f + 1) % 21 + i) % 21 by omega] at hx
        exact ⟨ix, hof (by omega) hx⟩
set_option maxHeartbeats 4000000 in
theorem c_X11_draw {d : Nat} {M : pM} {L k f : Nat} {s : Nat → Int} {B : Nat → bS} {ix : Nat → Nat} (hS : sOk M.1) (hW : cWd M) (hL : L ≤ 1000) (hl : M.2.1 3 5 = (L : Int)) (hs : ∀ j, j < L → M.2.1 5 j = s j ∧ 0 ≤ s j ∧ s j ≤ 126) (hC : CF M 19 (B 0) ix) (hD : bOk (B 0).1) (hk : bK (B 0).1 (B 0).2) (hA : CPa M B k f) : Ct (d + 8) 0 0 yX11_draw [.ref 2] M (fun v M2 => v = some (.int (iI (dwV s L (B 0)))) ∧ DCq s L k f B M M2) := by
  refine ct_in (d := (d + 7)) kX11_draw rfl (by decide) (Nat.le_of_ble_eq_true rfl) (by decide) ?_
  show Go (Ct (d + 7)) _ yX11_draw cX11_draw (some .int) 0 0 0 [some (.ref 2), none, none, none] [] M
  refine r_aload0 (pc2 := 1) dX11_draw_0 rfl ?_
  refine r_getR (pc2 := 4) dX11_draw_1 rfl fX11_21 (hK_2 hS) (hR_2_1 hS) ?_
  refine r_cv0 (pc2 := 7) dX11_draw_4 rfl vX11_106 (hK_9 hS) (by decide) (c_X4_read (d := d) (L := L) (s := s) hS hW hL hl hs) ?_
  rintro _ M1 ⟨rfl, f1, g1, z1, G1⟩
  have hS1 := f1.ok hS
  have hrs := rdF_st (s := s) hL
  have hr9 := hrs.1.1.2
  have hC1 : CF M1 19 (B 0) ix := hC.of (fun a a1 a2 => f1.2 a (by simp only [List.mem_cons, List.not_mem_nil, or_false]; omega))
  have hA1 : CPa M1 B k f := hA.of (f1.i (by decide)) (fun a a1 a2 => f1.2 a (by simp only [List.mem_cons, List.not_mem_nil, or_false]; omega))
  show Go (Ct (d + 7)) _ yX11_draw cX11_draw (some .int) 0 0 7 [some (.ref 2), none, none, none] [.int (iI (rdF s L).1.2)] M1
  refine r_istore1 (pc2 := 8) dX11_draw_7 rfl rfl ?_
  refine r_iload1 (pc2 := 9) dX11_draw_8 rfl ?_
  refine r_ifeq (tgt := 14) (pc2 := 12) dX11_draw_9 rfl (by decide) ⟨by omega, by omega⟩ (fun b_9 => ?_) (fun b_9 => ?_)
  · refine r_aload0 (pc2 := 15) dX11_draw_14 rfl ?_
    refine r_getR (pc2 := 18) dX11_draw_15 rfl fX11_44 (hK_2 hS1) (hR_2_4 hS1) ?_
    refine r_cv0 (pc2 := 21) dX11_draw_18 rfl vX11_110 (hK_40 hS1) (by decide) (c_X3_spare (d := d + 6) (f := f) (k := k) hS1 hA1.1.1 hA1.1.2.1 hA1.1.2.2.1 hA1.1.2.2.2) ?_
    rintro _ M9 ⟨rfl, h9⟩
    rw [h9]
    have hf9 := hA1.1.2.2.1
    have hb_b : isB (42 + 10 * ((f + k) % 21)) := pB_is _ (by omega)
    obtain ⟨b, eb⟩ : ∃ b, b = 42 + 10 * ((f + k) % 21) := ⟨_, rfl⟩
    rw [← eb] at hb_b ⊢
    show Go (Ct (d + 7)) _ yX11_draw cX11_draw (some .int) 0 0 21 [some (.ref 2), some (.int (iI (rdF s L).1.2)), none, none] [.ref (b)] M1
    refine r_astore2 (pc2 := 22) dX11_draw_21 rfl rfl ?_
    refine r_aload2 (pc2 := 23) dX11_draw_22 rfl ?_
    refine r_aload0 (pc2 := 24) dX11_draw_23 rfl ?_
    refine r_getR (pc2 := 27) dX11_draw_24 rfl fX11_28 (hK_2 hS1) (hR_2_2 hS1) ?_
    refine r_cv1 (pc2 := 30) dX11_draw_27 rfl vX11_114 (hKb hS1 hb_b) (by decide) (c_X0_copy (d := d + 6) (s := 19) (t := b) hS1 isB_19 hb_b (by omega)) ?_
    rintro _ M2 ⟨rfl, h2⟩
    have hS2 := h2.1.ok hS1
    have hC2 : CF M2 19 (B 0) ix := hC1.cpo isB_19 hb_b (by omega) h2
    have hX2 : CF M2 b (B 0) ix := hC1.cp h2
    have hA2 : CPa M2 B k f := ⟨by rw [h2.1.i (bcl_not (by omega))]; exact hA1.1, fun i hi => by
      obtain ⟨iy, h9⟩ := hA1.2 i hi
      exact ⟨iy, h9.cpo (pB_is _ (by omega)) hb_b (by have := hA1.1.2.2.2; omega) h2⟩⟩
    have hF0 : (rdF s L).1.2 = 0 := by omega
    have hG2 := G1 hF0
    obtain ⟨G, eG⟩ : ∃ G, G = (rdF s L).2 := ⟨_, rfl⟩
    rw [← eG] at hG2
    obtain ⟨⟨u, ns, hP⟩, -⟩ := hrs.1.2 hF0
    rw [← eG] at hP
    have hG3 : CG M2 G := by
      have e9 : ∀ a, 9 ≤ a → a ≤ 18 → M2.2.1 a = M1.2.1 a ∧ M2.2.2 a = M1.2.2 a := fun a a1 a2 => h2.1.2 a (bcl_not (by omega))
      unfold CG at hG2 ⊢
      rw [(e9 9 (by omega) (by omega)).1, (e9 10 (by omega) (by omega)).1, (e9 11 (by omega) (by omega)).1, (e9 12 (by omega) (by omega)).1, (e9 13 (by omega) (by omega)).1, (e9 14 (by omega) (by omega)).1, (e9 15 (by omega) (by omega)).1, (e9 16 (by omega) (by omega)).2, (e9 17 (by omega) (by omega)).1, (e9 18 (by omega) (by omega)).1]
      exact hG2
    show Go (Ct (d + 7)) _ yX11_draw cX11_draw (some .int) 0 0 30 [some (.ref 2), some (.int (iI (rdF s L).1.2)), some (.ref (b)), none] [] M2
    refine r_aload0 (pc2 := 31) dX11_draw_30 rfl ?_
    refine r_getR (pc2 := 34) dX11_draw_31 rfl fX11_37 (hK_2 hS2) (hR_2_3 hS2) ?_
    refine r_cv0 (pc2 := 37) dX11_draw_34 rfl vX11_118 (hK_29 hS2) (by decide) (c_X2_paint (d := d + 2) hS2 hG3 hP hC2.cb hD hk) ?_
    rintro _ M3 ⟨rfl, f3, ⟨ix3, b3, c3⟩, e15⟩
    have hS3 : sOk M3.1 := by rw [f3.1]; exact hS2
    obtain ⟨R, eR⟩ : ∃ R, R = dwR s L (B 0) := ⟨_, rfl⟩
    have eR2 : PTq G (B 0).1 (B 0).2 = R := by rw [eR]; unfold dwR; rw [eG]
    have okR : qOk2 R := by rw [← eR2]; exact PTq_ok hP hD hk
    rw [eR2] at b3 c3 e15 ⊢
    have ok9 := okR.1.2.2
    have n3 : ∀ a, 40 ≤ a → M3.2.1 a = M2.2.1 a ∧ M3.2.2 a = M2.2.2 a := fun a a1 => ⟨funext (fun j => f3.2.1 a j (by unfold okP; omega)), funext (fun j => f3.2.2 a j (by omega))⟩
    have hA3 : CPa M3 B k f := hA2.of (n3 40 (by omega)).1 (fun a a1 a2 => n3 a (by omega))
    have hX3 : CF M3 b (B 0) ix := hX2.of (fun a a1 a2 => n3 a (by omega))
    have low : ∀ a, a ≤ 2 ∨ a = 4 ∨ a = 5 ∨ 252 ≤ a → M3.2.1 a = M.2.1 a ∧ M3.2.2 a = M.2.2 a := fun a ha => by
      have q1 := f1.2 a (by simp only [List.mem_cons, List.not_mem_nil, or_false]; omega)
      have q2 := h2.1.2 a (bcl_not (by omega))
      refine ⟨?_, ?_⟩
      · rw [← q1.1, ← q2.1]; exact funext (fun j => f3.2.1 a j (by unfold okP; omega))
      · rw [← q1.2, ← q2.2]; exact funext (fun j => f3.2.2 a j (by omega))
    have l3 : ∀ j, M3.2.1 3 j = M1.2.1 3 j := fun j => by rw [f3.2.1 3 j (by unfold okP; omega), h2.1.i (bcl_not (by omega))]
    have l15 : M2.2.1 29 15 = M.2.1 29 15 := by rw [h2.1.i (bcl_not (by omega)), f1.i (by decide)]
    show Go (Ct (d + 7)) _ yX11_draw cX11_draw (some .int) 0 0 37 [some (.ref 2), some (.int (iI (rdF s L).1.2)), some (.ref (b)), none] [.int (iI R.2.2.2.2)] M3
    refine r_istore3 (pc2 := 38) dX11_draw_37 rfl rfl ?_
    refine r_iload3 (pc2 := 39) dX11_draw_38 rfl ?_
    refine r_ifeq (tgt := 53) (pc2 := 42) dX11_draw_39 rfl (by decide) ⟨by omega, by omega⟩ (fun b_39 => ?_) (fun b_39 => ?_)
    · refine r_aload0 (pc2 := 54) dX11_draw_53 rfl ?_
      refine r_getR (pc2 := 57) dX11_draw_54 rfl fX11_44 (hK_2 hS3) (hR_2_4 hS3) ?_
      refine r_cv0 (pc2 := 60) dX11_draw_57 rfl vX11_121 (hK_40 hS3) (by decide) (c_X3_keepSpare (d := d + 6) (f := f) (k := k) hS3 hA3.1.1 hA3.1.2.1 hA3.1.2.2.1 hA3.1.2.2.2) ?_
      rintro _ M4 ⟨rfl, h4⟩
      have n4 : ∀ a, a ≠ 40 → M4.2.1 a = M3.2.1 a ∧ M4.2.2 a = M3.2.2 a := fun a ha => by rw [h4]; split <;> exact ⟨pI_ne ha, rfl⟩
      have hS4 : sOk M4.1 := by rw [h4]; split <;> exact hS3
      show Go (Ct (d + 7)) _ yX11_draw cX11_draw (some .int) 0 0 60 [some (.ref 2), some (.int (iI (rdF s L).1.2)), some (.ref (b)), some (.int (iI R.2.2.2.2))] [] M4
      refine r_aload0 (pc2 := 61) dX11_draw_60 rfl ?_
      refine r_cv0 (pc2 := 64) dX11_draw_61 rfl vX11_124 (hK_2 hS4) (by decide) (c_X11_forgetSearches (d := d + 6) hS4) ?_
      rintro _ M5 ⟨rfl, h5⟩
      have n5 : ∀ a, a ≠ 263 → a ≠ 266 → M5.2.1 a = M4.2.1 a ∧ M5.2.2 a = M4.2.2 a := fun a a1 a2 => ⟨by rw [h5, pI_ne a2, pI_ne a1], by rw [h5]; rfl⟩
      show Go (Ct (d + 7)) _ yX11_draw cX11_draw (some .int) 0 0 64 [some (.ref 2), some (.int (iI (rdF s L).1.2)), some (.ref (b)), some (.int (iI R.2.2.2.2))] [] M5
      refine r_iconst (pc2 := 65) dX11_draw_64 rfl ?_
      refine r_ireti dX11_draw_65 rfl ?_
      have hR0 : R.2.2.2.2 = 0 := by omega
      have hv : dwV s L (B 0) = 0 := by unfold dwV; rw [if_pos hF0, ← eR, hR0]; rfl
      rw [eb] at hX3
      have hkp := hA3.kp (B2 := va_up (va_up B 25 (B 0)) 0 (R.1, R.2.1)) hX3 (fun j j1 j2 => by rw [up_ne (by omega), up_ne (by omega)]) (by rw [up_ne (by decide), up_at]) h4
      obtain ⟨f2, hA4⟩ := hkp
      have hC3 := b3.cf (c3 hR0)
      refine ⟨by rw [hv], ⟨?_, fun a ha => ?_, fun j jn => ?_, fun j jn => ?_, ?_, fun j j1 j2 => ?_⟩, fun q => absurd hv q, fun _ => ?_⟩
      · rw [h5]; show M4.1 = M.1; rw [← f1.1, ← h2.1.1, ← f3.1, h4]; split <;> rfl
      · rw [(n5 a (by omega) (by omega)).1, (n5 a (by omega) (by omega)).2, (n4 a (by omega)).1, (n4 a (by omega)).2]; exact low a (by omega)
      · rw [h5, pI_ne (by decide), pI_nk jn, (n4 263 (by omega)).1, (low 263 (by omega)).1]
      · rw [h5, pI_nk jn, pI_ne (by decide), (n4 266 (by omega)).1, (low 266 (by omega)).1]
      · rw [(n5 3 (by omega) (by omega)).1, (n4 3 (by omega)).1, l3]; exact z1
      · rw [(n5 3 (by omega) (by omega)).1, (n4 3 (by omega)).1, l3]; exact g1 j j1 j2
      · rw [← eR]
        refine ⟨⟨ix3, hC3.of (fun a a1 a2 => ?_)⟩, ⟨f2, hA4.of (n5 40 (by omega) (by omega)).1 (fun a a1 a2 => n5 a (by omega) (by omega))⟩, ?_, ?_, ?_⟩
        · rw [(n5 a (by omega) (by omega)).1, (n5 a (by omega) (by omega)).2]; exact n4 a (by omega)
        · rw [(n5 29 (by omega) (by omega)).1, (n4 29 (by omega)).1, e15, if_pos hR0]
        · rw [h5, pI_ne (by decide), pI_at]
        · rw [h5, pI_at]
    · refine r_aload0 (pc2 := 43) dX11_draw_42 rfl ?_
      refine r_getR (pc2 := 46) dX11_draw_43 rfl fX11_28 (hK_2 hS3) (hR_2_2 hS3) ?_
      refine r_aload2 (pc2 := 47) dX11_draw_46 rfl ?_
      refine r_cv1 (pc2 := 50) dX11_draw_47 rfl vX11_114 (hK_19 hS3) (by decide) (c_X0_copy (d := d + 6) (s := b) (t := 19) hS3 hb_b isB_19 (by omega)) ?_
      rintro _ M4 ⟨rfl, h4⟩
      show Go (Ct (d + 7)) _ yX11_draw cX11_draw (some .int) 0 0 50 [some (.ref 2), some (.int (iI (rdF s L).1.2)), some (.ref (b)), some (.int (iI R.2.2.2.2))] [] M4
      refine r_iload3 (pc2 := 51) dX11_draw_50 rfl ?_
      refine r_ineg (c := (-R.2.2.2.2)) (pc2 := 52) dX11_draw_51 rfl rfl ?_
      refine r_ireti dX11_draw_52 rfl ?_
      have hv : dwV s L (B 0) = -R.2.2.2.2 := by rw [eR]; exact if_pos hF0
      have m4 : ∀ a, a < 19 ∨ 28 < a → M4.2.1 a = M3.2.1 a ∧ M4.2.2 a = M3.2.2 a := fun a ha => h4.1.2 a (bcl_not (by omega))
      refine ⟨by rw [hv], ⟨?_, fun a ha => ?_, fun j _ => ?_, fun j _ => ?_, ?_, fun j j1 j2 => ?_⟩, fun _ => ⟨⟨ix, hX3.cp h4⟩, hA3.of (m4 40 (by omega)).1 (fun a a1 a2 => m4 a (by omega)), ?_, ?_, ?_⟩, fun q => absurd q (by rw [hv]; omega)⟩
      · rw [h4.1.1, f3.1, h2.1.1, f1.1]
      · rw [(m4 a (by omega)).1, (m4 a (by omega)).2]; exact low a (by omega)
      · rw [(m4 263 (by omega)).1, (low 263 (by omega)).1]
      · rw [(m4 266 (by omega)).1, (low 266 (by omega)).1]
      · rw [(m4 3 (by omega)).1, l3]; exact z1
      · rw [(m4 3 (by omega)).1, l3]; exact g1 j j1 j2
      · rw [(m4 29 (by omega)).1, e15, if_neg b_39]; exact l15
      · rw [(m4 263 (by omega)).1, (low 263 (by omega)).1]
      · rw [(m4 266 (by omega)).1, (low 266 (by omega)).1]
  · refine r_iload1 (pc2 := 13) dX11_draw_12 rfl ?_
    refine r_ireti dX11_draw_13 rfl ?_
    have hv : dwV s L (B 0) = (rdF s L).1.2 := if_neg b_9
    refine ⟨by rw [hv], ⟨f1.1, fun a ha => f1.2 a (by simp only [List.mem_cons, List.not_mem_nil, or_false]; omega), fun j _ => by rw [f1.i (by decide)], fun j _ => by rw [f1.i (by decide)], z1, g1⟩, fun _ => ⟨⟨ix, hC1⟩, hA1, by rw [f1.i (by decide)], by rw [f1.i (by decide)], by rw [f1.i (by decide)]⟩, fun q => absurd q (by rw [hv]; exact b_9)⟩
