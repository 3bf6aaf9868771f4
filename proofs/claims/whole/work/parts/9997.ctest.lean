/-! test: the class -/
set_option maxHeartbeats 4000000 in
theorem c_X11_testY {d : Nat} {M : pM} {s n : Nat} {lf : Nat → Int} {B : Nat → bS} {ix ho : Nat → Nat} {hw : Nat → Int} (hS : sOk M.1) (hl : ∀ s, s < 4 → M.2.1 253 s = lf s ∧ 0 ≤ lf s ∧ lf s ≤ 1) (hs4 : s < 4) (l1 : lf s = 1) (hC0 : CF M (277 + 10 * s) (B (1 + s)) ix) (ob : bOk (B (1 + s)).1 ∧ bK (B (1 + s)).1 (B (1 + s)).2) (hg : sgC M n ho hw) (hh : ∀ j, ho j < 4) (hT : CSg M B ho hw n) : Ct (d + 6) 0 0 yX11_test [.ref 2, .int (iI ((s : Nat) : Int))] M (fun v M2 => v = some (.int (iI (sBst (B (1 + s)).1 (sS9 (B (1 + s)) ho hw n)))) ∧ ∃ M3, CSl M3 B ho hw n s ∧ frG2 s M M3 ∧ frE (277 + 10 * s) M3 M2) := by
  refine ct_in (d := (d + 5)) kX11_test rfl (by decide) (Nat.le_of_ble_eq_true rfl) (by decide) ?_
  show Go (Ct (d + 5)) _ yX11_test cX11_test (some .int) 0 0 0 [some (.ref 2), some (.int (iI ((s : Nat) : Int)))] [] M
  have hb_b := sB_is s hs4
  obtain ⟨b, eb⟩ : ∃ b, b = 277 + 10 * s := ⟨_, rfl⟩
  have hC := hC0
  rw [← eb] at hb_b hC
  have h252 : M.1.2.2 252 s = some b := by rw [eb]; exact hR252 hS hs4
  refine r_aload0 (pc2 := 1) dX11_test_0 rfl ?_
  refine r_iload1 (pc2 := 2) dX11_test_1 rfl ?_
  refine r_cv1 (pc2 := 5) dX11_test_2 rfl vX11_194 (hK_2 hS) (by decide) (c_X11_isFilled (d := d + 4) (z := ((s : Nat) : Int)) (lf := lf) hS (by unfold inR; omega) hl) ?_
  rintro _ M9 ⟨rfl, h9⟩
  rw [h9, show (if ldP lf ((s : Nat) : Int) then (1 : Int) else 0) = 1 from if_pos ⟨⟨by omega, by omega⟩, l1⟩]
  show Go (Ct (d + 5)) _ yX11_test cX11_test (some .int) 0 0 5 [some (.ref 2), some (.int (iI ((s : Nat) : Int)))] [.int (iI 1)] M
  refine r_ifne (tgt := 10) (pc2 := 8) dX11_test_5 rfl (by decide) ⟨by omega, by omega⟩ (fun _ => ?_) (fun h9 => absurd h9 (by decide))
  refine r_aload0 (pc2 := 11) dX11_test_10 rfl ?_
  refine r_getR (pc2 := 14) dX11_test_11 rfl fX11_94 (hK_2 hS) (hR_2_12 hS) ?_
  refine r_aload0 (pc2 := 15) dX11_test_14 rfl ?_
  refine r_getR (pc2 := 18) dX11_test_15 rfl fX11_48 (hK_2 hS) (hR_2_5 hS) ?_
  refine r_iload1 (pc2 := 19) dX11_test_18 rfl ?_
  refine r_aald (pc2 := 20) dX11_test_19 rfl (hK_252 hS) s rfl (by omega) h252 ?_
  refine r_iload1 (pc2 := 21) dX11_test_20 rfl ?_
  refine r_cv2 (pc2 := 24) dX11_test_21 rfl vX11_224 (hK_270 hS) (by decide) (c_X7_list2 (d := d) (n := n) (v := M.2.2 b 11) (sf := (s : Int)) (ho := ho) (hw := hw) (s := (B (1 + s)).2) hS hb_b hC.1 ob.1 hg hh rfl hC.2.1 ob.2 (by unfold inR; omega) (by unfold inR; rcases hT with e | ⟨q, q4, e, -⟩ <;> omega)) ?_
  rintro _ M2 ⟨rfl, q⟩
  have h8 : CSl M2 B ho hw n s ∧ frG2 s M M2 := by
    rcases q with ⟨e, rfl⟩ | ⟨e, M1, f1, g1, f2, e2, c2⟩
    · rcases hT with e9 | ⟨t, t4, e9, t3⟩
      · omega
      · obtain rfl : t = s := by omega
        exact ⟨⟨e9, t3⟩, Or.inl rfl⟩
    · refine ⟨⟨e2, ix, ?_, c2⟩, Or.inr ⟨M1, f1, g1, by rw [← eb]; exact f2⟩⟩
      rw [← eb]
      have hC1 : CF M1 b (B (1 + s)) ix := hC.of (fun a a1 a2 => f1.2 a (by simp only [List.mem_cons, List.not_mem_nil, or_false]; omega))
      obtain ⟨c3, c4, c5, c6, c7⟩ := hC1
      exact ⟨c3.fl hb_b f2, by rw [f2.2.1.2 11 (by decide)]; exact c4, c5, by rw [f2.2.1.1]; exact c6, by rw [f2.2.1.1]; exact c7⟩
  have hS2 : sOk M2.1 := by rcases h8.2 with e | ⟨M1, f1, -, f2⟩; rw [e]; exact hS; exact f2.1.ok (f1.ok hS)
  obtain ⟨S, eS⟩ : ∃ S, S = sS9 (B (1 + s)) ho hw n := ⟨_, rfl⟩
  have q3 : M2.2.1 270 7 = (S.1 : Int) ∧ ∀ j, j < S.1 → M2.2.1 273 j = (S.2 j).1 := by obtain ⟨iy, -, c9⟩ := h8.1.2; rw [eS]; exact ⟨c9.1, fun j hj => (c9.2 j hj).1⟩
  have hle : S.1 ≤ 17 := by have h9 := susN_le (D := (B (1 + s)).1) (ho := ho) (hw := hw) (n := n) (s := (B (1 + s)).2) 156; have h7 := ob.1.2.2; rw [eS]; unfold sS9; omega
  show Go (Ct (d + 5)) _ yX11_test cX11_test (some .int) 0 0 24 [some (.ref 2), some (.int (iI ((s : Nat) : Int)))] [] M2
  refine r_aload0 (pc2 := 25) dX11_test_24 rfl ?_
  refine r_getR (pc2 := 28) dX11_test_25 rfl fX11_94 (hK_2 hS2) (hR_2_12 hS2) ?_
  refine r_aload0 (pc2 := 29) dX11_test_28 rfl ?_
  refine r_getR (pc2 := 32) dX11_test_29 rfl fX11_48 (hK_2 hS2) (hR_2_5 hS2) ?_
  refine r_iload1 (pc2 := 33) dX11_test_32 rfl ?_
  refine r_aald (pc2 := 34) dX11_test_33 rfl (hK_252 hS2) s rfl (by omega) (by rw [eb]; exact hR252 hS2 hs4 : M2.1.2.2 252 s = some b) ?_
  obtain ⟨iy, c8, c9⟩ := h8.1.2
  have c8b := c8
  rw [← eb] at c8
  have h252c : M2.1.2.2 252 s = some b := by rw [eb]; exact hR252 hS2 hs4
  refine r_cv1 (pc2 := 37) dX11_test_34 rfl vX11_234 (hK_270 hS2) (by decide) (c_X7_bestHopper (d := d) (D := (B (1 + s)).1) (ix := iy) (S := sS9 (B (1 + s)) ho hw n) hS2 hb_b c8.1 ob.1 c9 (fun j hj => susN_ok ob.1 hh ob.2 156 j hj) (by rw [← eS]; exact hle)) ?_
  rintro _ M3 ⟨rfl, f3⟩
  show Go (Ct (d + 5)) _ yX11_test cX11_test (some .int) 0 0 37 [some (.ref 2), some (.int (iI ((s : Nat) : Int)))] [.int (iI (sBst (B (1 + s)).1 (sS9 (B (1 + s)) ho hw n)))] M3
  refine r_ireti dX11_test_37 rfl ?_
  exact ⟨rfl, M2, h8.1, h8.2, by rw [← eb]; exact f3⟩
