/-! takeBack and shelf -/
def frZ (M M2 : pM) : Prop := fr [317, 328, 329, 330, 331, 332, 333, 334, 343] M M2 ∧ (∀ j, j ≠ 0 → j ≠ 28 → M2.2.1 317 j = M.2.1 317 j) ∧ M2.2.1 317 0 = 0
theorem MB.z {M : pM} {B : Nat → bS} {k : Nat} {z : Int} (h : MB M B) : MB (pI M 317 k z) B := h.ofl (fr.rf.I (show 317 ∈ [317] by decide)) (by decide)
set_option maxHeartbeats 4000000 in
theorem c_X12_takeBack {d : Nat} {M : pM} {k : Nat} {B : Nat → bS} (hS : sOk M.1) (hk : M.2.1 317 28 = (k : Int)) (hk2 : k ≤ 20) (hB : MB M B) : Ct (d + 2) 0 0 yX12_takeBack [.ref 317] M (fun v M2 => v = some (.int (iI (if k = 0 then 0 else 1))) ∧ (frZ M M2 ∧ M2.2.1 343 = M.2.1 343) ∧ if k = 0 then MB M2 B ∧ M2.2.1 317 28 = ((k : Nat) : Int) else MB M2 (va_up B 0 (B (5 + (k - 1)))) ∧ M2.2.1 317 28 = ((k - 1 : Nat) : Int)) := by
  refine ct_in (d := (d + 1)) kX12_takeBack rfl (by decide) (Nat.le_of_ble_eq_true rfl) (by decide) ?_
  show Go (Ct (d + 1)) _ yX12_takeBack cX12_takeBack (some .boolean) 0 0 0 [some (.ref 317)] [] M
  refine r_aload0 (pc2 := 1) dX12_takeBack_0 rfl ?_
  refine r_iconst (pc2 := 2) dX12_takeBack_1 rfl ?_
  refine r_putI (z := 0) (pc2 := 5) dX12_takeBack_2 rfl fX12_1 (w12_0 _) (hK_317 hS) (by decide) ?_
  refine r_aload0 (pc2 := 6) dX12_takeBack_5 rfl ?_
  refine r_getI (z := ((k : Nat) : Int)) (pc2 := 9) dX12_takeBack_6 rfl (Or.inl fX12_279) (hK_317 hS) hk ?_
  refine r_ifne (tgt := 14) (pc2 := 12) dX12_takeBack_9 rfl (by decide) ⟨by omega, by omega⟩ (fun b_9 => ?_) (fun b_9 => ?_)
  · refine r_aload0 (pc2 := 15) dX12_takeBack_14 rfl ?_
    refine r_dup (pc2 := 16) dX12_takeBack_15 rfl rfl ?_
    refine r_getI (z := ((k : Nat) : Int)) (pc2 := 19) dX12_takeBack_16 rfl (Or.inl fX12_279) (hK_317 hS) hk ?_
    refine r_iconst (pc2 := 20) dX12_takeBack_19 rfl ?_
    refine r_isub (c := ((k - 1 : Nat) : Int)) (pc2 := 21) dX12_takeBack_20 rfl (by omega) ?_
    refine r_putI (z := ((k - 1 : Nat) : Int)) (pc2 := 24) dX12_takeBack_21 rfl fX12_279 (w12_28 _) (hK_317 hS) (by decide) ?_
    refine r_aload0 (pc2 := 25) dX12_takeBack_24 rfl ?_
    refine r_iconst (pc2 := 26) dX12_takeBack_25 rfl ?_
    refine r_aload0 (pc2 := 27) dX12_takeBack_26 rfl ?_
    refine r_getI (z := ((k - 1 : Nat) : Int)) (pc2 := 30) dX12_takeBack_27 rfl (Or.inl fX12_279) (hK_317 hS) rfl ?_
    refine r_iadd (c := ((5 + (k - 1) : Nat) : Int)) (pc2 := 31) dX12_takeBack_30 rfl (by omega) ?_
    refine r_iconst (pc2 := 32) dX12_takeBack_31 rfl ?_
    refine r_cv2 (pc2 := 35) dX12_takeBack_32 rfl vX12_256 (hK_317 hS) (by decide) (c_X12_copies (d := d) (s := 5 + (k - 1)) (t := 0) hS (by omega) (by decide)) ?_
    rintro _ M8 ⟨rfl, h8⟩
    have hB8 := (hB.z (k := 0) (z := 0)).z (k := 28) (z := ((k - 1 : Nat) : Int)) |>.cp (by omega) h8
    show Go (Ct (d + 1)) _ yX12_takeBack cX12_takeBack (some .boolean) 0 0 35 [some (.ref 317)] [] M8
    refine r_iconst (pc2 := 36) dX12_takeBack_35 rfl ?_
    refine r_iretz dX12_takeBack_36 rfl (by omega) ?_
    refine ⟨by rw [if_neg (by omega)], ⟨⟨((fr.rf.I (by decide)).I (by decide)).tr (h8.1.mono (by decide)), fun j j0 j1 => by rw [h8.1.i (by decide), pI_nk j1, pI_nk j0], by rw [h8.1.i (by decide), pI_nk (by decide), pI_at]⟩, by rw [h8.1.i (by decide), pI_ne (by decide), pI_ne (by decide)]⟩, ?_⟩
    rw [if_neg (by omega)]
    exact ⟨hB8, by rw [h8.1.i (by decide), pI_at]⟩
  · refine r_iconst (pc2 := 13) dX12_takeBack_12 rfl ?_
    refine r_iretz dX12_takeBack_13 rfl (by omega) ?_
    refine ⟨by rw [if_pos (by omega)], ⟨⟨fr.rf.I (by decide), fun j j0 j1 => pI_nk j0, pI_at⟩, pI_ne (by decide)⟩, ?_⟩
    rw [if_pos (by omega)]
    exact ⟨hB.z, by rw [pI_nk (by decide)]; exact hk⟩
theorem CPa.eq {M : pM} {B B2 : Nat → bS} {k f : Nat} (h : CPa M B k f) (e : ∀ j, 5 ≤ j → j < 25 → B2 j = B j) : CPa M B2 k f := ⟨h.1, fun i hi => by have := h.1.2.2.2; rw [e (5 + i) (by omega) (by omega)]; exact h.2 i hi⟩
theorem CPa.dn {M : pM} {B : Nat → bS} {k k2 f : Nat} (h : CPa M B k f) (hk : k2 ≤ k) : CPa (pI M 40 2 ((k2 : Nat) : Int)) B k2 f := ⟨⟨by rw [pI_nk (by decide)]; exact h.1.1, pI_at, h.1.2.2.1, by have := h.1.2.2.2; omega⟩, fun i hi => by
  obtain ⟨ix, h9⟩ := h.2 i (by omega)
  exact ⟨ix, h9.of (fun a a1 a2 => ⟨pI_ne (by omega), rfl⟩)⟩⟩
def frB (M M2 : pM) : Prop := M2.1 = M.1 ∧ (∀ a, ¬ (19 ≤ a ∧ a ≤ 28) → a ≠ 40 → a ≠ 263 → a ≠ 266 → M2.2.1 a = M.2.1 a ∧ M2.2.2 a = M.2.2 a) ∧ (∀ j, j ≠ 0 → M2.2.1 263 j = M.2.1 263 j) ∧ (∀ j, j ≠ 4 → M2.2.1 266 j = M.2.1 266 j) ∧ M2.2.1 263 0 = -1 ∧ M2.2.1 266 4 = 0
/-- a board is taken, and searches are forgotten -/
theorem frB.mk2 {M M1 M2 : pM} {b : Nat} {z : Int} (hc : cCp M M1 b 19) (h : M2 = pI (pI M1 263 0 (-1)) 266 4 0) : frB M M2 := by
  refine ⟨by rw [h]; exact hc.1.1, fun a a1 a2 a3 a4 => ?_, fun j hj => ?_, fun j hj => ?_, ?_, ?_⟩
  · rw [h, pI_ne a4, pI_ne a3]; exact hc.1.2 a (bcl_not (by omega))
  · rw [h, pI_ne (by decide), pI_nk hj, hc.1.i (bcl_not (by omega))]
  · rw [h, pI_nk hj, pI_ne (by decide), hc.1.i (bcl_not (by omega))]
  · rw [h, pI_ne (by decide), pI_at]
  · rw [h, pI_at]
set_option maxHeartbeats 4000000 in
theorem c_X3_takeLatest {d : Nat} {M : pM} {f k : Nat} (hS : sOk M.1) (hf : M.2.1 40 1 = (f : Int)) (hk : M.2.1 40 2 = ((k + 1 : Nat) : Int)) (hf2 : f < 21) (hk2 : k < 20) : Ct (d + 2) 0 0 yX3_takeLatest [.ref 40] M (fun v M2 => v = some (.ref (42 + 10 * ((f + k) % 21))) ∧ M2 = pI M 40 2 ((k : Nat) : Int)) := by
  refine ct_in (d := (d + 1)) kX3_takeLatest rfl (by decide) (Nat.le_of_ble_eq_true rfl) (by decide) ?_
  show Go (Ct (d + 1)) _ yX3_takeLatest cX3_takeLatest (some (.object "MarbleWorks$Board")) 0 0 0 [some (.ref 40)] [] M
  refine r_aload0 (pc2 := 1) dX3_takeLatest_0 rfl ?_
  refine r_dup (pc2 := 2) dX3_takeLatest_1 rfl rfl ?_
  refine r_getI (z := ((k + 1 : Nat) : Int)) (pc2 := 5) dX3_takeLatest_2 rfl (Or.inl fX3_20) (hK_40 hS) hk ?_
  refine r_iconst (pc2 := 6) dX3_takeLatest_5 rfl ?_
  refine r_isub (c := ((k : Nat) : Int)) (pc2 := 7) dX3_takeLatest_6 rfl (by omega) ?_
  refine r_putI (z := ((k : Nat) : Int)) (pc2 := 10) dX3_takeLatest_7 rfl fX3_20 (w3_2 _) (hK_40 hS) (by decide) ?_
  refine r_aload0 (pc2 := 11) dX3_takeLatest_10 rfl ?_
  refine r_cv0 (pc2 := 14) dX3_takeLatest_11 rfl vX3_23 (hK_40 hS) (by decide) (c_X3_spare (d := d) (M := pI M 40 2 ((k : Nat) : Int)) (f := f) (k := k) hS (by rw [pI_nk (by decide)]; exact hf) pI_at hf2 (by omega)) ?_
  rintro _ M9 ⟨rfl, h9⟩
  rw [h9]
  show Go (Ct (d + 1)) _ yX3_takeLatest cX3_takeLatest (some (.object "MarbleWorks$Board")) 0 0 14 [some (.ref 40)] [.ref (42 + 10 * ((f + k) % 21))] (pI M 40 2 ((k : Nat) : Int))
  exact go_aret dX3_takeLatest_14 rfl ⟨rfl, rfl⟩
set_option maxHeartbeats 4000000 in
theorem c_X11_takeBack {d : Nat} {M : pM} {k f : Nat} {B : Nat → bS} (hS : sOk M.1) (hA : CPa M B k f) : Ct (d + 4) 0 0 yX11_takeBack [.ref 2] M (fun v M2 => v = some (.int (iI (if k = 0 then 0 else 1))) ∧ if k = 0 then M2 = M else frB M M2 ∧ (∃ ix, CF M2 19 (B (5 + (k - 1))) ix) ∧ CPa M2 B (k - 1) f) := by
  refine ct_in (d := (d + 3)) kX11_takeBack rfl (by decide) (Nat.le_of_ble_eq_true rfl) (by decide) ?_
  show Go (Ct (d + 3)) _ yX11_takeBack cX11_takeBack (some .boolean) 0 0 0 [some (.ref 2)] [] M
  have hk9 := hA.1.2.2.2
  have hf9 := hA.1.2.2.1
  refine r_aload0 (pc2 := 1) dX11_takeBack_0 rfl ?_
  refine r_getR (pc2 := 4) dX11_takeBack_1 rfl fX11_44 (hK_2 hS) (hR_2_4 hS) ?_
  refine r_getI (z := ((k : Nat) : Int)) (pc2 := 7) dX11_takeBack_4 rfl (Or.inl fX11_127) (hK_40 hS) hA.1.2.1 ?_
  refine r_ifne (tgt := 12) (pc2 := 10) dX11_takeBack_7 rfl (by decide) ⟨by omega, by omega⟩ (fun b_7 => ?_) (fun b_7 => ?_)
  · refine r_aload0 (pc2 := 13) dX11_takeBack_12 rfl ?_
    refine r_getR (pc2 := 16) dX11_takeBack_13 rfl fX11_28 (hK_2 hS) (hR_2_2 hS) ?_
    refine r_aload0 (pc2 := 17) dX11_takeBack_16 rfl ?_
    refine r_getR (pc2 := 20) dX11_takeBack_17 rfl fX11_44 (hK_2 hS) (hR_2_4 hS) ?_
    refine r_cv0 (pc2 := 23) dX11_takeBack_20 rfl vX11_130 (hK_40 hS) (Nat.le_of_ble_eq_true rfl) (c_X3_takeLatest (d := d + 1) (f := f) (k := k - 1) hS hA.1.1 (by rw [hA.1.2.1]; omega) hA.1.2.2.1 (by omega)) ?_
    rintro _ M9 ⟨rfl, h9⟩
    rw [h9]
    have hb_b : isB (42 + 10 * ((f + (k - 1)) % 21)) := pB_is _ (by omega)
    obtain ⟨b, eb⟩ : ∃ b, b = 42 + 10 * ((f + (k - 1)) % 21) := ⟨_, rfl⟩
    rw [← eb] at hb_b ⊢
    obtain ⟨M1, h1⟩ : ∃ M1, M1 = pI M 40 2 ((k - 1 : Nat) : Int) := ⟨_, rfl⟩
    rw [← h1]
    have hS1 : sOk M1.1 := by rw [h1]; exact hS
    have hA1 : CPa M1 B (k - 1) f := by rw [h1]; exact hA.dn (by omega)
    obtain ⟨iy, hC1⟩ := hA.2 (k - 1) (by omega)
    rw [← eb] at hC1
    have hC2 : CF M1 b (B (5 + (k - 1))) iy := hC1.of (fun a a1 a2 => by rw [h1]; exact ⟨pI_ne (by omega), rfl⟩)
    show Go (Ct (d + 3)) _ yX11_takeBack cX11_takeBack (some .boolean) 0 0 23 [some (.ref 2)] [.ref (b), .ref 19] M1
    refine r_cv1 (pc2 := 26) dX11_takeBack_23 rfl vX11_114 (hK_19 hS1) (by decide) (c_X0_copy (d := d + 2) (s := b) (t := 19) hS1 hb_b isB_19 (by omega)) ?_
    rintro _ M2 ⟨rfl, h2⟩
    have hS2 := h2.1.ok hS1
    show Go (Ct (d + 3)) _ yX11_takeBack cX11_takeBack (some .boolean) 0 0 26 [some (.ref 2)] [] M2
    refine r_aload0 (pc2 := 27) dX11_takeBack_26 rfl ?_
    refine r_cv0 (pc2 := 30) dX11_takeBack_27 rfl vX11_124 (hK_2 hS2) (by decide) (c_X11_forgetSearches (d := d + 2) hS2) ?_
    rintro _ M3 ⟨rfl, h3⟩
    have hB3 := frB.mk2 (z := 0) h2 h3
    show Go (Ct (d + 3)) _ yX11_takeBack cX11_takeBack (some .boolean) 0 0 30 [some (.ref 2)] [] M3
    refine r_iconst (pc2 := 31) dX11_takeBack_30 rfl ?_
    refine r_iretz dX11_takeBack_31 rfl (by omega) ?_
    refine ⟨by rw [if_neg (by omega)], ?_⟩
    rw [if_neg (by omega)]
    refine ⟨?_, ⟨iy, (hC2.cp h2).of (fun a a1 a2 => by rw [h3]; exact ⟨by rw [pI_ne (by omega), pI_ne (by omega)], rfl⟩)⟩, (hA1.of (h2.1.i (bcl_not (by omega))) (fun a a1 a2 => h2.1.2 a (bcl_not (by omega)))).of (by rw [h3, pI_ne (by decide), pI_ne (by decide)]) (fun a a1 a2 => by rw [h3]; exact ⟨by rw [pI_ne (by omega), pI_ne (by omega)], rfl⟩)⟩
    obtain ⟨w1, w2, w3, w4, w5, w6⟩ := hB3
    exact ⟨w1.trans (by rw [h1]; rfl), fun a a1 a2 a3 a4 => by rw [(w2 a a1 a2 a3 a4).1, (w2 a a1 a2 a3 a4).2, h1]; exact ⟨pI_ne a2, rfl⟩, fun j hj => by rw [w3 j hj, h1, pI_ne (by decide)], fun j hj => by rw [w4 j hj, h1, pI_ne (by decide)], w5, w6⟩
  · refine r_iconst (pc2 := 11) dX11_takeBack_10 rfl ?_
    refine r_iretz dX11_takeBack_11 rfl (by omega) ?_
    refine ⟨by rw [if_pos (by omega)], ?_⟩
    rw [if_pos (by omega)]
