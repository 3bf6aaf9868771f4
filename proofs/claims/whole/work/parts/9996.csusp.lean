/-! suspect: the class -/
/-- the list that the class holds, of shelf s -/
def CSl (M : pM) (B : Nat → bS) (ho : Nat → Nat) (hw : Nat → Int) (n s : Nat) : Prop := M.2.1 270 8 = (s : Int) ∧ ∃ ix, CF M (277 + 10 * s) (B (1 + s)) ix ∧ CL (B (1 + s)).1 ix M (sS9 (B (1 + s)) ho hw n)
def CSg (M : pM) (B : Nat → bS) (ho : Nat → Nat) (hw : Nat → Int) (n : Nat) : Prop := M.2.1 270 8 = -1 ∨ ∃ s : Nat, s < 4 ∧ CSl M B ho hw n s
def frG2 (s : Nat) (M M2 : pM) : Prop := M2 = M ∨ ∃ M1, fr [270] M M1 ∧ (∀ k, k ≠ 7 → k ≠ 8 → M1.2.1 270 k = M.2.1 270 k) ∧ frL (277 + 10 * s) M1 M2
set_option maxHeartbeats 4000000 in
theorem c_X11_suspectN {d : Nat} {M : pM} {z i : Int} {lf : Nat → Int} (hS : sOk M.1) (hl : ∀ s, s < 4 → M.2.1 253 s = lf s ∧ 0 ≤ lf s ∧ lf s ≤ 1) (hzr : inR z) (oz : ¬ ldP lf z) : Ct (d + 2) 0 0 yX11_suspect [.ref 2, .int (iI z), .int (iI i)] M (fun v M2 => v = some (.int (iI (-1))) ∧ M2 = M) := by
  refine ct_in (d := (d + 1)) kX11_suspect rfl (by decide) (Nat.le_of_ble_eq_true rfl) (by decide) ?_
  show Go (Ct (d + 1)) _ yX11_suspect cX11_suspect (some .int) 0 0 0 [some (.ref 2), some (.int (iI z)), some (.int (iI i))] [] M
  refine r_aload0 (pc2 := 1) dX11_suspect_0 rfl ?_
  refine r_iload1 (pc2 := 2) dX11_suspect_1 rfl ?_
  refine r_cv1 (pc2 := 5) dX11_suspect_2 rfl vX11_194 (hK_2 hS) (by decide) (c_X11_isFilled (d := d) (lf := lf) hS hzr hl) ?_
  rintro _ M9 ⟨rfl, h9⟩
  rw [h9, show (if ldP lf z then (1 : Int) else 0) = 0 from if_neg oz]
  show Go (Ct (d + 1)) _ yX11_suspect cX11_suspect (some .int) 0 0 5 [some (.ref 2), some (.int (iI z)), some (.int (iI i))] [.int (iI 0)] M
  refine r_ifne (tgt := 10) (pc2 := 8) dX11_suspect_5 rfl (by decide) ⟨by omega, by omega⟩ (fun h9 => absurd h9 (by decide)) (fun _ => ?_)
  refine r_iconst (pc2 := 9) dX11_suspect_8 rfl ?_
  refine r_ireti dX11_suspect_9 rfl ?_
  exact ⟨rfl, rfl⟩
set_option maxHeartbeats 4000000 in
theorem c_X11_testN {d : Nat} {M : pM} {z i : Int} {lf : Nat → Int} (hS : sOk M.1) (hl : ∀ s, s < 4 → M.2.1 253 s = lf s ∧ 0 ≤ lf s ∧ lf s ≤ 1) (hzr : inR z) (oz : ¬ ldP lf z) : Ct (d + 2) 0 0 yX11_test [.ref 2, .int (iI z)] M (fun v M2 => v = some (.int (iI (-1))) ∧ M2 = M) := by
  refine ct_in (d := (d + 1)) kX11_test rfl (by decide) (Nat.le_of_ble_eq_true rfl) (by decide) ?_
  show Go (Ct (d + 1)) _ yX11_test cX11_test (some .int) 0 0 0 [some (.ref 2), some (.int (iI z))] [] M
  refine r_aload0 (pc2 := 1) dX11_test_0 rfl ?_
  refine r_iload1 (pc2 := 2) dX11_test_1 rfl ?_
  refine r_cv1 (pc2 := 5) dX11_test_2 rfl vX11_194 (hK_2 hS) (by decide) (c_X11_isFilled (d := d) (lf := lf) hS hzr hl) ?_
  rintro _ M9 ⟨rfl, h9⟩
  rw [h9, show (if ldP lf z then (1 : Int) else 0) = 0 from if_neg oz]
  show Go (Ct (d + 1)) _ yX11_test cX11_test (some .int) 0 0 5 [some (.ref 2), some (.int (iI z))] [.int (iI 0)] M
  refine r_ifne (tgt := 10) (pc2 := 8) dX11_test_5 rfl (by decide) ⟨by omega, by omega⟩ (fun h9 => absurd h9 (by decide)) (fun _ => ?_)
  refine r_iconst (pc2 := 9) dX11_test_8 rfl ?_
  refine r_ireti dX11_test_9 rfl ?_
  exact ⟨rfl, rfl⟩
set_option maxHeartbeats 4000000 in
theorem c_X11_suspectY {d : Nat} {M : pM} {i : Int} {s n : Nat} {lf : Nat → Int} {B : Nat → bS} {ix ho : Nat → Nat} {hw : Nat → Int} (hS : sOk M.1) (hl : ∀ s, s < 4 → M.2.1 253 s = lf s ∧ 0 ≤ lf s ∧ lf s ≤ 1) (hs4 : s < 4) (l1 : lf s = 1) (hC0 : CF M (277 + 10 * s) (B (1 + s)) ix) (ob : bOk (B (1 + s)).1 ∧ bK (B (1 + s)).1 (B (1 + s)).2) (hg : sgC M n ho hw) (hh : ∀ j, ho j < 4) (hT : CSg M B ho hw n) (hir : inR i) : Ct (d + 6) 0 0 yX11_suspect [.ref 2, .int (iI ((s : Nat) : Int)), .int (iI i)] M (fun v M2 => v = some (.int (iI (if 0 ≤ i ∧ i < (((sS9 (B (1 + s)) ho hw n).1 : Nat) : Int) then ((sS9 (B (1 + s)) ho hw n).2 i.toNat).1 else -1))) ∧ CSl M2 B ho hw n s ∧ frG2 s M M2) := by
  refine ct_in (d := (d + 5)) kX11_suspect rfl (by decide) (Nat.le_of_ble_eq_true rfl) (by decide) ?_
  show Go (Ct (d + 5)) _ yX11_suspect cX11_suspect (some .int) 0 0 0 [some (.ref 2), some (.int (iI ((s : Nat) : Int))), some (.int (iI i))] [] M
  unfold inR at hir
  have hb_b := sB_is s hs4
  obtain ⟨b, eb⟩ : ∃ b, b = 277 + 10 * s := ⟨_, rfl⟩
  have hC := hC0
  rw [← eb] at hb_b hC
  have h252 : M.1.2.2 252 s = some b := by rw [eb]; exact hR252 hS hs4
  refine r_aload0 (pc2 := 1) dX11_suspect_0 rfl ?_
  refine r_iload1 (pc2 := 2) dX11_suspect_1 rfl ?_
  refine r_cv1 (pc2 := 5) dX11_suspect_2 rfl vX11_194 (hK_2 hS) (by decide) (c_X11_isFilled (d := d + 4) (z := ((s : Nat) : Int)) (lf := lf) hS (by unfold inR; omega) hl) ?_
  rintro _ M9 ⟨rfl, h9⟩
  rw [h9, show (if ldP lf ((s : Nat) : Int) then (1 : Int) else 0) = 1 from if_pos ⟨⟨by omega, by omega⟩, l1⟩]
  show Go (Ct (d + 5)) _ yX11_suspect cX11_suspect (some .int) 0 0 5 [some (.ref 2), some (.int (iI ((s : Nat) : Int))), some (.int (iI i))] [.int (iI 1)] M
  refine r_ifne (tgt := 10) (pc2 := 8) dX11_suspect_5 rfl (by decide) ⟨by omega, by omega⟩ (fun _ => ?_) (fun h9 => absurd h9 (by decide))
  refine r_aload0 (pc2 := 11) dX11_suspect_10 rfl ?_
  refine r_getR (pc2 := 14) dX11_suspect_11 rfl fX11_94 (hK_2 hS) (hR_2_12 hS) ?_
  refine r_aload0 (pc2 := 15) dX11_suspect_14 rfl ?_
  refine r_getR (pc2 := 18) dX11_suspect_15 rfl fX11_48 (hK_2 hS) (hR_2_5 hS) ?_
  refine r_iload1 (pc2 := 19) dX11_suspect_18 rfl ?_
  refine r_aald (pc2 := 20) dX11_suspect_19 rfl (hK_252 hS) s rfl (by omega) h252 ?_
  refine r_iload1 (pc2 := 21) dX11_suspect_20 rfl ?_
  refine r_cv2 (pc2 := 24) dX11_suspect_21 rfl vX11_224 (hK_270 hS) (by decide) (c_X7_list2 (d := d) (n := n) (v := M.2.2 b 11) (sf := (s : Int)) (ho := ho) (hw := hw) (s := (B (1 + s)).2) hS hb_b hC.1 ob.1 hg hh rfl hC.2.1 ob.2 (by unfold inR; omega) (by unfold inR; rcases hT with e | ⟨q, q4, e, -⟩ <;> omega)) ?_
  rintro _ M2 ⟨rfl, q⟩
  have h8 : CSl M2 B ho hw n s ∧ frG2 s M M2 := by
    rcases q with ⟨e, rfl⟩ | ⟨e, M1, f1, g1, f2, e2, c2⟩
    · rcases hT with e9 | ⟨t, t4, e9, t3⟩
      · omega
      · obtain rfl : t = s := by omega
        exact ⟨⟨e9, t3⟩, Or.inl rfl⟩
    · refine ⟨⟨e2, ix, ?_, c2⟩, Or.inr ⟨M1, f1, g1, by rw [← eb]; exact f2⟩⟩
      rw [← eb]
      have hC1 : CF M1 b (B (1 + s)) ix := hC.of (fun a a1 a2 => f1.2 a (by simp only [List.mem_cons, List.not_mem_nil, or_false]; omega))
      obtain ⟨c3, c4, c5, c6, c7⟩ := hC1
      exact ⟨c3.fl hb_b f2, by rw [f2.2.1.2 11 (by decide)]; exact c4, c5, by rw [f2.2.1.1]; exact c6, by rw [f2.2.1.1]; exact c7⟩
  have hS2 : sOk M2.1 := by rcases h8.2 with e | ⟨M1, f1, -, f2⟩; rw [e]; exact hS; exact f2.1.ok (f1.ok hS)
  obtain ⟨S, eS⟩ : ∃ S, S = sS9 (B (1 + s)) ho hw n := ⟨_, rfl⟩
  have q3 : M2.2.1 270 7 = (S.1 : Int) ∧ ∀ j, j < S.1 → M2.2.1 273 j = (S.2 j).1 := by obtain ⟨iy, -, c9⟩ := h8.1.2; rw [eS]; exact ⟨c9.1, fun j hj => (c9.2 j hj).1⟩
  have hle : S.1 ≤ 17 := by have h9 := susN_le (D := (B (1 + s)).1) (ho := ho) (hw := hw) (n := n) (s := (B (1 + s)).2) 156; have h7 := ob.1.2.2; rw [eS]; unfold sS9; omega
  show Go (Ct (d + 5)) _ yX11_suspect cX11_suspect (some .int) 0 0 24 [some (.ref 2), some (.int (iI ((s : Nat) : Int))), some (.int (iI i))] [] M2
  refine r_iload2 (pc2 := 25) dX11_suspect_24 rfl ?_
  refine r_iflt (tgt := 39) (pc2 := 28) dX11_suspect_25 rfl (by decide) ⟨by omega, by omega⟩ (fun b_25 => ?_) (fun b_25 => ?_)
  · refine r_iconst (pc2 := 40) dX11_suspect_39 rfl ?_
    refine r_goto (tgt := 52) dX11_suspect_40 (by decide) ?_
    refine r_ireti dX11_suspect_52 rfl ?_
    refine ⟨?_, h8⟩
    rw [← eS, if_neg (by omega)]
  · refine r_iload2 (pc2 := 29) dX11_suspect_28 rfl ?_
    refine r_aload0 (pc2 := 30) dX11_suspect_29 rfl ?_
    refine r_getR (pc2 := 33) dX11_suspect_30 rfl fX11_94 (hK_2 hS2) (hR_2_12 hS2) ?_
    refine r_getI (z := ((S.1 : Nat) : Int)) (pc2 := 36) dX11_suspect_33 rfl (Or.inl fX11_228) (hK_270 hS2) q3.1 ?_
    refine r_iclt (tgt := 43) (pc2 := 39) dX11_suspect_36 rfl (by decide) ⟨by omega, by omega⟩ ⟨by omega, by omega⟩ (fun b_36 => ?_) (fun b_36 => ?_)
    · refine r_aload0 (pc2 := 44) dX11_suspect_43 rfl ?_
      refine r_getR (pc2 := 47) dX11_suspect_44 rfl fX11_94 (hK_2 hS2) (hR_2_12 hS2) ?_
      refine r_getR (pc2 := 50) dX11_suspect_47 rfl fX11_231 (hK_270 hS2) (hR_270_2 hS2) ?_
      refine r_iload2 (pc2 := 51) dX11_suspect_50 rfl ?_
      refine r_iald (z := ((S.2 i.toNat).1)) (pc2 := 52) dX11_suspect_51 rfl (hK_273 hS2) (i).toNat (by omega) (by omega) (q3.2 i.toNat (by omega)) ?_
      refine r_ireti dX11_suspect_52 rfl ?_
      refine ⟨?_, h8⟩
      rw [← eS, if_pos (by omega)]
    · refine r_iconst (pc2 := 40) dX11_suspect_39 rfl ?_
      refine r_goto (tgt := 52) dX11_suspect_40 (by decide) ?_
      refine r_ireti dX11_suspect_52 rfl ?_
      refine ⟨?_, h8⟩
      rw [← eS, if_neg (by omega)]
