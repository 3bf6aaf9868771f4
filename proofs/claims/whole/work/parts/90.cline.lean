/-! the class's LINES are done -/
set_option maxHeartbeats 4000000 in
theorem c_X2_beginAgain {d : Nat} {M : pM} {G : gPr} {u ns : Nat → Nat} {t i i2 st e tl : Nat} {sx sy dx dy m : Int} (hS : sOk M.1) (hG : CG M G) (hP : PV G u ns) (hi : i < gS G) (hF : FT M t i2 st e tl sx sy dx dy m) (ht : t < 155) (hm : m = 0 ∨ m = 1) (hA : gA G i = 11) : Ct (d + 2) 0 0 yX2_beginAgain [.ref 29, .int (iI ((i : Nat) : Int))] M (fun v M2 => v = none ∧ FT M2 (t + 1) (i + 1) (i + 1) (gE G i).toNat (g1 G i).toNat (tn m (g2 G i)) (g3 G i) dx dy m ∧ frG t M M2) := by
  refine ct_in (d := (d + 1)) kX2_beginAgain rfl (by decide) (Nat.le_of_ble_eq_true rfl) (by decide) ?_
  show Go (Ct (d + 1)) _ yX2_beginAgain cX2_beginAgain none 0 0 0 [some (.ref 29), some (.int (iI ((i : Nat) : Int)))] [] M
  have hl := hP.2.2.2.2 i hi
  have h125 := hP.1.1
  have hE1 := hl.2.1
  have hE2 := hl.2.2.1
  have hLV := hl.2.2.2.1
  have hG9 := hG.2.2.2.1 i hi
  have hE : M.2.1 11 i = (((gE G i).toNat : Nat) : Int) := by rw [hG9.2.1]; omega
  have hV := hLV.2.1 hA
  have e12 : M.2.1 12 i = (((g1 G i).toNat : Nat) : Int) := by rw [(hG9.2.2 (by omega)).1]; omega
  refine r_aload0 (pc2 := 1) dX2_beginAgain_0 rfl ?_
  refine r_dup (pc2 := 2) dX2_beginAgain_1 rfl rfl ?_
  refine r_getI (z := ((t : Nat) : Int)) (pc2 := 5) dX2_beginAgain_2 rfl (Or.inl fX2_51) (hK_29 hS) hF.1 ?_
  refine r_iconst (pc2 := 6) dX2_beginAgain_5 rfl ?_
  refine r_iadd (c := ((t + 1 : Nat) : Int)) (pc2 := 7) dX2_beginAgain_6 rfl (by omega) ?_
  refine r_putI (z := ((t + 1 : Nat) : Int)) (pc2 := 10) dX2_beginAgain_7 rfl fX2_51 (w2_12 _) (hK_29 hS) (by decide) ?_
  refine r_aload0 (pc2 := 11) dX2_beginAgain_10 rfl ?_
  refine r_iload1 (pc2 := 12) dX2_beginAgain_11 rfl ?_
  refine r_iconst (pc2 := 13) dX2_beginAgain_12 rfl ?_
  refine r_iadd (c := ((i + 1 : Nat) : Int)) (pc2 := 14) dX2_beginAgain_13 rfl (by omega) ?_
  refine r_aload0 (pc2 := 15) dX2_beginAgain_14 rfl ?_
  refine r_getR (pc2 := 18) dX2_beginAgain_15 rfl fX2_43 (hK_29 hS) (hR_29_0 hS) ?_
  refine r_getR (pc2 := 21) dX2_beginAgain_18 rfl fX2_86 (hK_9 hS) (hR_9_2 hS) ?_
  refine r_iload1 (pc2 := 22) dX2_beginAgain_21 rfl ?_
  refine r_iald (z := (((gE G i).toNat : Nat) : Int)) (pc2 := 23) dX2_beginAgain_22 rfl (hK_11 hS) i rfl (by omega) hE ?_
  refine r_aload0 (pc2 := 24) dX2_beginAgain_23 rfl ?_
  refine r_getR (pc2 := 27) dX2_beginAgain_24 rfl fX2_43 (hK_29 hS) (hR_29_0 hS) ?_
  refine r_getR (pc2 := 30) dX2_beginAgain_27 rfl fX2_106 (hK_9 hS) (hR_9_3 hS) ?_
  refine r_iload1 (pc2 := 31) dX2_beginAgain_30 rfl ?_
  refine r_iald (z := (((g1 G i).toNat : Nat) : Int)) (pc2 := 32) dX2_beginAgain_31 rfl (hK_12 hS) i rfl (by omega) e12 ?_
  refine r_cv3 (pc2 := 35) dX2_beginAgain_32 rfl vX2_66 (hK_29 hS) (by decide) (c_X2_beginFrame (d := d) (t := t) (st := i + 1) (e := (gE G i).toNat) (tl := (g1 G i).toNat) (dx := dx) (dy := dy) (m := m) hS pI_at ht (by rw [pI_ne (by decide)]; exact hF.2.2.2.2.2.2.2.1) (by rw [pI_ne (by decide)]; exact hF.2.2.2.2.2.2.2.2.1) (by rw [pI_ne (by decide)]; exact hF.2.2.2.2.2.2.2.2.2) hm) ?_
  rintro _ M8 ⟨rfl, f8, g8⟩
  have g9 : frG t M M8 := (frG.rf.I (by unfold okG; omega)).tr g8
  have hS8 := g9.ok hS
  have hG8 := hG.fc g9.c
  have hG7 := (hG8.2.2.2.1 i hi).2.2 (by omega)
  show Go (Ct (d + 1)) _ yX2_beginAgain cX2_beginAgain none 0 0 35 [some (.ref 29), some (.int (iI ((i : Nat) : Int)))] [] M8
  refine r_aload0 (pc2 := 36) dX2_beginAgain_35 rfl ?_
  refine r_getR (pc2 := 39) dX2_beginAgain_36 rfl fX2_24 (hK_29 hS8) (hR_29_6 hS8) ?_
  refine r_aload0 (pc2 := 40) dX2_beginAgain_39 rfl ?_
  refine r_getI (z := ((t + 1 : Nat) : Int)) (pc2 := 43) dX2_beginAgain_40 rfl (Or.inl fX2_51) (hK_29 hS8) f8.1 ?_
  refine r_aload0 (pc2 := 44) dX2_beginAgain_43 rfl ?_
  refine r_aload0 (pc2 := 45) dX2_beginAgain_44 rfl ?_
  refine r_getR (pc2 := 48) dX2_beginAgain_45 rfl fX2_43 (hK_29 hS8) (hR_29_0 hS8) ?_
  refine r_getR (pc2 := 51) dX2_beginAgain_48 rfl fX2_109 (hK_9 hS8) (hR_9_4 hS8) ?_
  refine r_iload1 (pc2 := 52) dX2_beginAgain_51 rfl ?_
  refine r_iald (z := (g2 G i)) (pc2 := 53) dX2_beginAgain_52 rfl (hK_13 hS8) i rfl (by omega) hG7.2.1 ?_
  refine r_cv1 (pc2 := 56) dX2_beginAgain_53 rfl vX2_118 (hK_29 hS8) (Nat.le_of_ble_eq_true rfl) (c_X2_turned (d := d) (t := t + 1) (z := (g2 G i)) (m := m) hS8 f8.1 (by omega) f8.2.2.2.2.2.2.2.2.2 hm) ?_
  rintro _ M9 ⟨rfl, h9⟩
  rw [h9]
  show Go (Ct (d + 1)) _ yX2_beginAgain cX2_beginAgain none 0 0 56 [some (.ref 29), some (.int (iI ((i : Nat) : Int)))] [.int (iI (tn m (g2 G i))), .int (iI ((t + 1 : Nat) : Int)), .ref 34] M8
  refine r_iast (z := (tn m (g2 G i))) (pc2 := 57) dX2_beginAgain_56 rfl (hK_34 hS8) (by decide) (t + 1) rfl (by omega) ?_
  refine r_aload0 (pc2 := 58) dX2_beginAgain_57 rfl ?_
  refine r_getR (pc2 := 61) dX2_beginAgain_58 rfl fX2_27 (hK_29 hS8) (hR_29_7 hS8) ?_
  refine r_aload0 (pc2 := 62) dX2_beginAgain_61 rfl ?_
  refine r_getI (z := ((t + 1 : Nat) : Int)) (pc2 := 65) dX2_beginAgain_62 rfl (Or.inl fX2_51) (hK_29 hS8) f8.1 ?_
  refine r_aload0 (pc2 := 66) dX2_beginAgain_65 rfl ?_
  refine r_getR (pc2 := 69) dX2_beginAgain_66 rfl fX2_43 (hK_29 hS8) (hR_29_0 hS8) ?_
  refine r_getR (pc2 := 72) dX2_beginAgain_69 rfl fX2_115 (hK_9 hS8) (hR_9_5 hS8) ?_
  refine r_iload1 (pc2 := 73) dX2_beginAgain_72 rfl ?_
  refine r_iald (z := (g3 G i)) (pc2 := 74) dX2_beginAgain_73 rfl (hK_14 hS8) i rfl (by omega) (by all_goals (try rw [pI_ne (by decide)]); exact hG7.2.2.1) ?_
  refine r_iast (z := (g3 G i)) (pc2 := 75) dX2_beginAgain_74 rfl (hK_35 hS8) (by decide) (t + 1) rfl (by omega) ?_
  refine r_ret dX2_beginAgain_75 rfl ?_
  obtain ⟨h1, h2, h3, h4, h5, h6, h7, h8, h9, h10⟩ := f8
  refine ⟨rfl, ⟨?_, ?_, ?_, ?_, ?_, ?_, ?_, ?_, ?_, ?_⟩, ((g9.I (by unfold okG; omega)).I (by unfold okG; omega))⟩
  · (repeat (first | rw [pI_at] | rw [pI_ne (by decide)] | rw [pI_nk (by omega)])); exact h1
  · (repeat (first | rw [pI_at] | rw [pI_ne (by decide)] | rw [pI_nk (by omega)])); exact h2
  · (repeat (first | rw [pI_at] | rw [pI_ne (by decide)] | rw [pI_nk (by omega)])); exact h3
  · (repeat (first | rw [pI_at] | rw [pI_ne (by decide)] | rw [pI_nk (by omega)])); exact h4
  · (repeat (first | rw [pI_at] | rw [pI_ne (by decide)] | rw [pI_nk (by omega)])); exact h5
  · (repeat (first | rw [pI_at] | rw [pI_ne (by decide)] | rw [pI_nk (by omega)]))
  · (repeat (first | rw [pI_at] | rw [pI_ne (by decide)] | rw [pI_nk (by omega)]))
  · (repeat (first | rw [pI_at] | rw [pI_ne (by decide)] | rw [pI_nk (by omega)])); exact h8
  · (repeat (first | rw [pI_at] | rw [pI_ne (by decide)] | rw [pI_nk (by omega)])); exact h9
  · (repeat (first | rw [pI_at] | rw [pI_ne (by decide)] | rw [pI_nk (by omega)])); exact h10
set_option maxHeartbeats 4000000 in
theorem c_X2_beginMirror {d : Nat} {M : pM} {G : gPr} {u ns : Nat → Nat} {t i i2 st e tl : Nat} {sx sy dx dy m : Int} (hS : sOk M.1) (hG : CG M G) (hP : PV G u ns) (hi : i < gS G) (hF : FT M t i2 st e tl sx sy dx dy m) (ht : t < 155) (hm : m = 0 ∨ m = 1) (hA : gA G i = 12) : Ct (d + 2) 0 0 yX2_beginMirror [.ref 29, .int (iI ((i : Nat) : Int))] M (fun v M2 => v = none ∧ FT M2 (t + 1) (i + 1) (i + 1) (gE G i).toNat 1 0 0 (dx + tn m (2 * g1 G i)) dy (1 - m) ∧ frG t M M2) := by
  refine ct_in (d := (d + 1)) kX2_beginMirror rfl (by decide) (Nat.le_of_ble_eq_true rfl) (by decide) ?_
  show Go (Ct (d + 1)) _ yX2_beginMirror cX2_beginMirror none 0 0 0 [some (.ref 29), some (.int (iI ((i : Nat) : Int)))] [] M
  have hl := hP.2.2.2.2 i hi
  have h125 := hP.1.1
  have hE1 := hl.2.1
  have hE2 := hl.2.2.1
  have hLV := hl.2.2.2.1
  have hG9 := hG.2.2.2.1 i hi
  have hE : M.2.1 11 i = (((gE G i).toNat : Nat) : Int) := by rw [hG9.2.1]; omega
  have hV := hLV.2.2.1 hA
  refine r_aload0 (pc2 := 1) dX2_beginMirror_0 rfl ?_
  refine r_dup (pc2 := 2) dX2_beginMirror_1 rfl rfl ?_
  refine r_getI (z := ((t : Nat) : Int)) (pc2 := 5) dX2_beginMirror_2 rfl (Or.inl fX2_51) (hK_29 hS) hF.1 ?_
  refine r_iconst (pc2 := 6) dX2_beginMirror_5 rfl ?_
  refine r_iadd (c := ((t + 1 : Nat) : Int)) (pc2 := 7) dX2_beginMirror_6 rfl (by omega) ?_
  refine r_putI (z := ((t + 1 : Nat) : Int)) (pc2 := 10) dX2_beginMirror_7 rfl fX2_51 (w2_12 _) (hK_29 hS) (by decide) ?_
  refine r_aload0 (pc2 := 11) dX2_beginMirror_10 rfl ?_
  refine r_iload1 (pc2 := 12) dX2_beginMirror_11 rfl ?_
  refine r_iconst (pc2 := 13) dX2_beginMirror_12 rfl ?_
  refine r_iadd (c := ((i + 1 : Nat) : Int)) (pc2 := 14) dX2_beginMirror_13 rfl (by omega) ?_
  refine r_aload0 (pc2 := 15) dX2_beginMirror_14 rfl ?_
  refine r_getR (pc2 := 18) dX2_beginMirror_15 rfl fX2_43 (hK_29 hS) (hR_29_0 hS) ?_
  refine r_getR (pc2 := 21) dX2_beginMirror_18 rfl fX2_86 (hK_9 hS) (hR_9_2 hS) ?_
  refine r_iload1 (pc2 := 22) dX2_beginMirror_21 rfl ?_
  refine r_iald (z := (((gE G i).toNat : Nat) : Int)) (pc2 := 23) dX2_beginMirror_22 rfl (hK_11 hS) i rfl (by omega) hE ?_
  refine r_iconst (pc2 := 24) dX2_beginMirror_23 rfl ?_
  refine r_cv3 (pc2 := 27) dX2_beginMirror_24 rfl vX2_66 (hK_29 hS) (by decide) (c_X2_beginFrame (d := d) (t := t) (st := i + 1) (e := (gE G i).toNat) (tl := 1) (dx := dx) (dy := dy) (m := m) hS pI_at ht (by rw [pI_ne (by decide)]; exact hF.2.2.2.2.2.2.2.1) (by rw [pI_ne (by decide)]; exact hF.2.2.2.2.2.2.2.2.1) (by rw [pI_ne (by decide)]; exact hF.2.2.2.2.2.2.2.2.2) hm) ?_
  rintro _ M8 ⟨rfl, f8, g8⟩
  have g9 : frG t M M8 := (frG.rf.I (by unfold okG; omega)).tr g8
  have hS8 := g9.ok hS
  have hG8 := hG.fc g9.c
  have hG7 := (hG8.2.2.2.1 i hi).2.2 (by omega)
  show Go (Ct (d + 1)) _ yX2_beginMirror cX2_beginMirror none 0 0 27 [some (.ref 29), some (.int (iI ((i : Nat) : Int)))] [] M8
  refine r_aload0 (pc2 := 28) dX2_beginMirror_27 rfl ?_
  refine r_getR (pc2 := 31) dX2_beginMirror_28 rfl fX2_30 (hK_29 hS8) (hR_29_8 hS8) ?_
  refine r_aload0 (pc2 := 32) dX2_beginMirror_31 rfl ?_
  refine r_getI (z := ((t + 1 : Nat) : Int)) (pc2 := 35) dX2_beginMirror_32 rfl (Or.inl fX2_51) (hK_29 hS8) f8.1 ?_
  refine r_dup2 (pc2 := 36) dX2_beginMirror_35 rfl rfl rfl ?_
  refine r_iald (z := dx) (pc2 := 37) dX2_beginMirror_36 rfl (hK_36 hS8) (t + 1) rfl (by omega) f8.2.2.2.2.2.2.2.1 ?_
  refine r_aload0 (pc2 := 38) dX2_beginMirror_37 rfl ?_
  refine r_iconst (pc2 := 39) dX2_beginMirror_38 rfl ?_
  refine r_aload0 (pc2 := 40) dX2_beginMirror_39 rfl ?_
  refine r_getR (pc2 := 43) dX2_beginMirror_40 rfl fX2_43 (hK_29 hS8) (hR_29_0 hS8) ?_
  refine r_getR (pc2 := 46) dX2_beginMirror_43 rfl fX2_106 (hK_9 hS8) (hR_9_3 hS8) ?_
  refine r_iload1 (pc2 := 47) dX2_beginMirror_46 rfl ?_
  refine r_iald (z := (g1 G i)) (pc2 := 48) dX2_beginMirror_47 rfl (hK_12 hS8) i rfl (by omega) hG7.1 ?_
  refine r_imul (c := (2 * (g1 G i))) (pc2 := 49) dX2_beginMirror_48 rfl rfl ?_
  refine r_cv1 (pc2 := 52) dX2_beginMirror_49 rfl vX2_118 (hK_29 hS8) (Nat.le_of_ble_eq_true rfl) (c_X2_turned (d := d) (t := t + 1) (z := (2 * (g1 G i))) (m := m) hS8 f8.1 (by omega) f8.2.2.2.2.2.2.2.2.2 hm) ?_
  rintro _ M9 ⟨rfl, h9⟩
  rw [h9]
  show Go (Ct (d + 1)) _ yX2_beginMirror cX2_beginMirror none 0 0 52 [some (.ref 29), some (.int (iI ((i : Nat) : Int)))] [.int (iI (tn m (2 * (g1 G i)))), .int (iI dx), .int (iI ((t + 1 : Nat) : Int)), .ref 36] M8
  refine r_iadd (c := (dx + (tn m (2 * (g1 G i))))) (pc2 := 53) dX2_beginMirror_52 rfl rfl ?_
  refine r_iast (z := (dx + (tn m (2 * (g1 G i))))) (pc2 := 54) dX2_beginMirror_53 rfl (hK_36 hS8) (by decide) (t + 1) rfl (by omega) ?_
  refine r_aload0 (pc2 := 55) dX2_beginMirror_54 rfl ?_
  refine r_getR (pc2 := 58) dX2_beginMirror_55 rfl fX2_36 (hK_29 hS8) (hR_29_10 hS8) ?_
  refine r_aload0 (pc2 := 59) dX2_beginMirror_58 rfl ?_
  refine r_getI (z := ((t + 1 : Nat) : Int)) (pc2 := 62) dX2_beginMirror_59 rfl (Or.inl fX2_51) (hK_29 hS8) f8.1 ?_
  refine r_aload0 (pc2 := 63) dX2_beginMirror_62 rfl ?_
  refine r_getR (pc2 := 66) dX2_beginMirror_63 rfl fX2_36 (hK_29 hS8) (hR_29_10 hS8) ?_
  refine r_aload0 (pc2 := 67) dX2_beginMirror_66 rfl ?_
  refine r_getI (z := ((t + 1 : Nat) : Int)) (pc2 := 70) dX2_beginMirror_67 rfl (Or.inl fX2_51) (hK_29 hS8) f8.1 ?_
  refine r_zald (z := m) (pc2 := 71) dX2_beginMirror_70 rfl (hK_38 hS8) (t + 1) rfl (by omega) (by all_goals (try rw [pI_ne (by decide)]); exact f8.2.2.2.2.2.2.2.2.2) ?_
  refine r_ifne (tgt := 78) (pc2 := 74) dX2_beginMirror_71 rfl (by decide) ⟨by omega, by omega⟩ (fun b_71 => ?_) (fun b_71 => ?_)
  · refine r_iconst (pc2 := 79) dX2_beginMirror_78 rfl ?_
    refine r_zast (z := 0) (pc2 := 80) dX2_beginMirror_79 rfl (hK_38 hS8) (by decide) (t + 1) rfl (by omega) (by omega) ?_
    refine r_ret dX2_beginMirror_80 rfl ?_
    obtain ⟨h1, h2, h3, h4, h5, h6, h7, h8, h9, h10⟩ := f8
    refine ⟨rfl, ⟨?_, ?_, ?_, ?_, ?_, ?_, ?_, ?_, ?_, ?_⟩, ((g9.I (by unfold okG; omega)).I (by unfold okG; omega))⟩
    · (repeat (first | rw [pI_at] | rw [pI_ne (by decide)] | rw [pI_nk (by omega)])); exact h1
    · (repeat (first | rw [pI_at] | rw [pI_ne (by decide)] | rw [pI_nk (by omega)])); exact h2
    · (repeat (first | rw [pI_at] | rw [pI_ne (by decide)] | rw [pI_nk (by omega)])); exact h3
    · (repeat (first | rw [pI_at] | rw [pI_ne (by decide)] | rw [pI_nk (by omega)])); exact h4
    · (repeat (first | rw [pI_at] | rw [pI_ne (by decide)] | rw [pI_nk (by omega)])); exact h5
    · (repeat (first | rw [pI_at] | rw [pI_ne (by decide)] | rw [pI_nk (by omega)])); exact h6
    · (repeat (first | rw [pI_at] | rw [pI_ne (by decide)] | rw [pI_nk (by omega)])); exact h7
    · (repeat (first | rw [pI_at] | rw [pI_ne (by decide)] | rw [pI_nk (by omega)]))
    · (repeat (first | rw [pI_at] | rw [pI_ne (by decide)] | rw [pI_nk (by omega)])); exact h9
    · (repeat (first | rw [pI_at] | rw [pI_ne (by decide)] | rw [pI_nk (by omega)])); omega
  · refine r_iconst (pc2 := 75) dX2_beginMirror_74 rfl ?_
    refine r_goto (tgt := 79) dX2_beginMirror_75 (by decide) ?_
    refine r_zast (z := 1) (pc2 := 80) dX2_beginMirror_79 rfl (hK_38 hS8) (by decide) (t + 1) rfl (by omega) (by omega) ?_
    refine r_ret dX2_beginMirror_80 rfl ?_
    obtain ⟨h1, h2, h3, h4, h5, h6, h7, h8, h9, h10⟩ := f8
    refine ⟨rfl, ⟨?_, ?_, ?_, ?_, ?_, ?_, ?_, ?_, ?_, ?_⟩, ((g9.I (by unfold okG; omega)).I (by unfold okG; omega))⟩
    · (repeat (first | rw [pI_at] | rw [pI_ne (by decide)] | rw [pI_nk (by omega)])); exact h1
    · (repeat (first | rw [pI_at] | rw [pI_ne (by decide)] | rw [pI_nk (by omega)])); exact h2
    · (repeat (first | rw [pI_at] | rw [pI_ne (by decide)] | rw [pI_nk (by omega)])); exact h3
    · (repeat (first | rw [pI_at] | rw [pI_ne (by decide)] | rw [pI_nk (by omega)])); exact h4
    · (repeat (first | rw [pI_at] | rw [pI_ne (by decide)] | rw [pI_nk (by omega)])); exact h5
    · (repeat (first | rw [pI_at] | rw [pI_ne (by decide)] | rw [pI_nk (by omega)])); exact h6
    · (repeat (first | rw [pI_at] | rw [pI_ne (by decide)] | rw [pI_nk (by omega)])); exact h7
    · (repeat (first | rw [pI_at] | rw [pI_ne (by decide)] | rw [pI_nk (by omega)]))
    · (repeat (first | rw [pI_at] | rw [pI_ne (by decide)] | rw [pI_nk (by omega)])); exact h9
    · (repeat (first | rw [pI_at] | rw [pI_ne (by decide)] | rw [pI_nk (by omega)])); omega
set_option maxHeartbeats 4000000 in
theorem c_X2_beginUse {d : Nat} {M : pM} {G : gPr} {u ns : Nat → Nat} {t i i2 st e tl : Nat} {sx sy dx dy m : Int} (hS : sOk M.1) (hG : CG M G) (hP : PV G u ns) (hi : i < gS G) (hF : FT M t i2 st e tl sx sy dx dy m) (ht : t < 155) (hm : m = 0 ∨ m = 1) (hA : gA G i = 14) : Ct (d + 2) 0 0 yX2_beginUse [.ref 29, .int (iI ((i : Nat) : Int))] M (fun v M2 => v = none ∧ FT M2 (t + 1) ((g1 G i).toNat + 1) ((g1 G i).toNat + 1) (gE G (g1 G i).toNat).toNat 1 0 0 (dx + tn m (g2 G i)) (dy + g3 G i) m ∧ frG t M M2) := by
  refine ct_in (d := (d + 1)) kX2_beginUse rfl (by decide) (Nat.le_of_ble_eq_true rfl) (by decide) ?_
  show Go (Ct (d + 1)) _ yX2_beginUse cX2_beginUse none 0 0 0 [some (.ref 29), some (.int (iI ((i : Nat) : Int))), none] [] M
  have hl := hP.2.2.2.2 i hi
  have h125 := hP.1.1
  have hE1 := hl.2.1
  have hE2 := hl.2.2.1
  have hLV := hl.2.2.2.1
  have hG9 := hG.2.2.2.1 i hi
  have hE : M.2.1 11 i = (((gE G i).toNat : Nat) : Int) := by rw [hG9.2.1]; omega
  obtain ⟨⟨k, k1, k2⟩, hV⟩ := hLV.2.2.2.1 hA
  have hn := hP.2.1 k (by have := hl.2.2.2.2.1; omega)
  have hk2 := hn.2.1
  have e1 : (g1 G i).toNat = gL G k := by omega
  have hlk := hP.2.2.2.2 _ hk2
  have hlk1 := hlk.2.1
  have hlk2 := hlk.2.2.1
  have e12 : M.2.1 12 i = ((gL G k : Nat) : Int) := by rw [(hG9.2.2 (by omega)).1]; exact k2
  have hE3 : M.2.1 11 (gL G k) = (((gE G (gL G k)).toNat : Nat) : Int) := by rw [(hG.2.2.2.1 _ hk2).2.1]; omega
  refine r_aload0 (pc2 := 1) dX2_beginUse_0 rfl ?_
  refine r_getR (pc2 := 4) dX2_beginUse_1 rfl fX2_43 (hK_29 hS) (hR_29_0 hS) ?_
  refine r_getR (pc2 := 7) dX2_beginUse_4 rfl fX2_106 (hK_9 hS) (hR_9_3 hS) ?_
  refine r_iload1 (pc2 := 8) dX2_beginUse_7 rfl ?_
  refine r_iald (z := ((gL G k : Nat) : Int)) (pc2 := 9) dX2_beginUse_8 rfl (hK_12 hS) i rfl (by omega) e12 ?_
  refine r_istore2 (pc2 := 10) dX2_beginUse_9 rfl rfl ?_
  refine r_aload0 (pc2 := 11) dX2_beginUse_10 rfl ?_
  refine r_dup (pc2 := 12) dX2_beginUse_11 rfl rfl ?_
  refine r_getI (z := ((t : Nat) : Int)) (pc2 := 15) dX2_beginUse_12 rfl (Or.inl fX2_51) (hK_29 hS) hF.1 ?_
  refine r_iconst (pc2 := 16) dX2_beginUse_15 rfl ?_
  refine r_iadd (c := ((t + 1 : Nat) : Int)) (pc2 := 17) dX2_beginUse_16 rfl (by omega) ?_
  refine r_putI (z := ((t + 1 : Nat) : Int)) (pc2 := 20) dX2_beginUse_17 rfl fX2_51 (w2_12 _) (hK_29 hS) (by decide) ?_
  refine r_aload0 (pc2 := 21) dX2_beginUse_20 rfl ?_
  refine r_iload2 (pc2 := 22) dX2_beginUse_21 rfl ?_
  refine r_iconst (pc2 := 23) dX2_beginUse_22 rfl ?_
  refine r_iadd (c := ((gL G k + 1 : Nat) : Int)) (pc2 := 24) dX2_beginUse_23 rfl (by omega) ?_
  refine r_aload0 (pc2 := 25) dX2_beginUse_24 rfl ?_
  refine r_getR (pc2 := 28) dX2_beginUse_25 rfl fX2_43 (hK_29 hS) (hR_29_0 hS) ?_
  refine r_getR (pc2 := 31) dX2_beginUse_28 rfl fX2_86 (hK_9 hS) (hR_9_2 hS) ?_
  refine r_iload2 (pc2 := 32) dX2_beginUse_31 rfl ?_
  refine r_iald (z := (((gE G (gL G k)).toNat : Nat) : Int)) (pc2 := 33) dX2_beginUse_32 rfl (hK_11 hS) (gL G k) rfl (by omega) hE3 ?_
  refine r_iconst (pc2 := 34) dX2_beginUse_33 rfl ?_
  refine r_cv3 (pc2 := 37) dX2_beginUse_34 rfl vX2_66 (hK_29 hS) (by decide) (c_X2_beginFrame (d := d) (t := t) (st := gL G k + 1) (e := (gE G (gL G k)).toNat) (tl := 1) (dx := dx) (dy := dy) (m := m) hS pI_at ht (by rw [pI_ne (by decide)]; exact hF.2.2.2.2.2.2.2.1) (by rw [pI_ne (by decide)]; exact hF.2.2.2.2.2.2.2.2.1) (by rw [pI_ne (by decide)]; exact hF.2.2.2.2.2.2.2.2.2) hm) ?_
  rintro _ M8 ⟨rfl, f8, g8⟩
  have g9 : frG t M M8 := (frG.rf.I (by unfold okG; omega)).tr g8
  have hS8 := g9.ok hS
  have hG8 := hG.fc g9.c
  have hG7 := (hG8.2.2.2.1 i hi).2.2 (by omega)
  show Go (Ct (d + 1)) _ yX2_beginUse cX2_beginUse none 0 0 37 [some (.ref 29), some (.int (iI ((i : Nat) : Int))), some (.int (iI ((gL G k : Nat) : Int)))] [] M8
  refine r_aload0 (pc2 := 38) dX2_beginUse_37 rfl ?_
  refine r_getR (pc2 := 41) dX2_beginUse_38 rfl fX2_30 (hK_29 hS8) (hR_29_8 hS8) ?_
  refine r_aload0 (pc2 := 42) dX2_beginUse_41 rfl ?_
  refine r_getI (z := ((t + 1 : Nat) : Int)) (pc2 := 45) dX2_beginUse_42 rfl (Or.inl fX2_51) (hK_29 hS8) f8.1 ?_
  refine r_dup2 (pc2 := 46) dX2_beginUse_45 rfl rfl rfl ?_
  refine r_iald (z := dx) (pc2 := 47) dX2_beginUse_46 rfl (hK_36 hS8) (t + 1) rfl (by omega) f8.2.2.2.2.2.2.2.1 ?_
  refine r_aload0 (pc2 := 48) dX2_beginUse_47 rfl ?_
  refine r_aload0 (pc2 := 49) dX2_beginUse_48 rfl ?_
  refine r_getR (pc2 := 52) dX2_beginUse_49 rfl fX2_43 (hK_29 hS8) (hR_29_0 hS8) ?_
  refine r_getR (pc2 := 55) dX2_beginUse_52 rfl fX2_109 (hK_9 hS8) (hR_9_4 hS8) ?_
  refine r_iload1 (pc2 := 56) dX2_beginUse_55 rfl ?_
  refine r_iald (z := (g2 G i)) (pc2 := 57) dX2_beginUse_56 rfl (hK_13 hS8) i rfl (by omega) hG7.2.1 ?_
  refine r_cv1 (pc2 := 60) dX2_beginUse_57 rfl vX2_118 (hK_29 hS8) (Nat.le_of_ble_eq_true rfl) (c_X2_turned (d := d) (t := t + 1) (z := (g2 G i)) (m := m) hS8 f8.1 (by omega) f8.2.2.2.2.2.2.2.2.2 hm) ?_
  rintro _ M9 ⟨rfl, h9⟩
  rw [h9]
  show Go (Ct (d + 1)) _ yX2_beginUse cX2_beginUse none 0 0 60 [some (.ref 29), some (.int (iI ((i : Nat) : Int))), some (.int (iI ((gL G k : Nat) : Int)))] [.int (iI (tn m (g2 G i))), .int (iI dx), .int (iI ((t + 1 : Nat) : Int)), .ref 36] M8
  refine r_iadd (c := (dx + (tn m (g2 G i)))) (pc2 := 61) dX2_beginUse_60 rfl rfl ?_
  refine r_iast (z := (dx + (tn m (g2 G i)))) (pc2 := 62) dX2_beginUse_61 rfl (hK_36 hS8) (by decide) (t + 1) rfl (by omega) ?_
  refine r_aload0 (pc2 := 63) dX2_beginUse_62 rfl ?_
  refine r_getR (pc2 := 66) dX2_beginUse_63 rfl fX2_33 (hK_29 hS8) (hR_29_9 hS8) ?_
  refine r_aload0 (pc2 := 67) dX2_beginUse_66 rfl ?_
  refine r_getI (z := ((t + 1 : Nat) : Int)) (pc2 := 70) dX2_beginUse_67 rfl (Or.inl fX2_51) (hK_29 hS8) f8.1 ?_
  refine r_dup2 (pc2 := 71) dX2_beginUse_70 rfl rfl rfl ?_
  refine r_iald (z := dy) (pc2 := 72) dX2_beginUse_71 rfl (hK_37 hS8) (t + 1) rfl (by omega) (by all_goals (try rw [pI_ne (by decide)]); exact f8.2.2.2.2.2.2.2.2.1) ?_
  refine r_aload0 (pc2 := 73) dX2_beginUse_72 rfl ?_
  refine r_getR (pc2 := 76) dX2_beginUse_73 rfl fX2_43 (hK_29 hS8) (hR_29_0 hS8) ?_
  refine r_getR (pc2 := 79) dX2_beginUse_76 rfl fX2_115 (hK_9 hS8) (hR_9_5 hS8) ?_
  refine r_iload1 (pc2 := 80) dX2_beginUse_79 rfl ?_
  refine r_iald (z := (g3 G i)) (pc2 := 81) dX2_beginUse_80 rfl (hK_14 hS8) i rfl (by omega) (by all_goals (try rw [pI_ne (by decide)]); exact hG7.2.2.1) ?_
  refine r_iadd (c := (dy + (g3 G i))) (pc2 := 82) dX2_beginUse_81 rfl rfl ?_
  refine r_iast (z := (dy + (g3 G i))) (pc2 := 83) dX2_beginUse_82 rfl (hK_37 hS8) (by decide) (t + 1) rfl (by omega) ?_
  refine r_ret dX2_beginUse_83 rfl ?_
  rw [e1]
  obtain ⟨h1, h2, h3, h4, h5, h6, h7, h8, h9, h10⟩ := f8
  refine ⟨rfl, ⟨?_, ?_, ?_, ?_, ?_, ?_, ?_, ?_, ?_, ?_⟩, ((g9.I (by unfold okG; omega)).I (by unfold okG; omega))⟩
  · (repeat (first | rw [pI_at] | rw [pI_ne (by decide)] | rw [pI_nk (by omega)])); exact h1
  · (repeat (first | rw [pI_at] | rw [pI_ne (by decide)] | rw [pI_nk (by omega)])); exact h2
  · (repeat (first | rw [pI_at] | rw [pI_ne (by decide)] | rw [pI_nk (by omega)])); exact h3
  · (repeat (first | rw [pI_at] | rw [pI_ne (by decide)] | rw [pI_nk (by omega)])); exact h4
  · (repeat (first | rw [pI_at] | rw [pI_ne (by decide)] | rw [pI_nk (by omega)])); exact h5
  · (repeat (first | rw [pI_at] | rw [pI_ne (by decide)] | rw [pI_nk (by omega)])); exact h6
  · (repeat (first | rw [pI_at] | rw [pI_ne (by decide)] | rw [pI_nk (by omega)])); exact h7
  · (repeat (first | rw [pI_at] | rw [pI_ne (by decide)] | rw [pI_nk (by omega)]))
  · (repeat (first | rw [pI_at] | rw [pI_ne (by decide)] | rw [pI_nk (by omega)]))
  · (repeat (first | rw [pI_at] | rw [pI_ne (by decide)] | rw [pI_nk (by omega)])); exact h10
set_option maxHeartbeats 4000000 in
theorem c_X2_doHopper {d : Nat} {M : pM} {G : gPr} {u ns : Nat → Nat} {i : Nat} (hS : sOk M.1) (hG : CG M G) (hP : PV G u ns) (hi : i < gS G) (hA : gA G i = 16) : Ct (d + 1) 0 0 yX2_doHopper [.ref 29, .int (iI ((i : Nat) : Int))] M (fun v M2 => v = none ∧ M2 = pI (pI (pI M 26 (g1 G i).toNat (((g2 G i).toNat : Nat) : Int)) 27 (g1 G i).toNat (g3 G i)) 28 (g1 G i).toNat (g4 G i)) := by
  refine ct_in (d := d) kX2_doHopper rfl (by decide) (Nat.le_of_ble_eq_true rfl) (by decide) ?_
  show Go (Ct d) _ yX2_doHopper cX2_doHopper none 0 0 0 [some (.ref 29), some (.int (iI ((i : Nat) : Int))), none] [] M
  have hl := hP.2.2.2.2 i hi
  have h125 := hP.1.1
  have hE1 := hl.2.1
  have hE2 := hl.2.2.1
  have hLV := hl.2.2.2.1
  have hG9 := hG.2.2.2.1 i hi
  have hE : M.2.1 11 i = (((gE G i).toNat : Nat) : Int) := by rw [hG9.2.1]; omega
  have hV := hLV.2.2.2.2.2 hA
  have hG7 := hG9.2.2 (by omega)
  have e12 : M.2.1 12 i = (((g1 G i).toNat : Nat) : Int) := by rw [hG7.1]; omega
  have e13 : M.2.1 13 i = (((g2 G i).toNat : Nat) : Int) := by rw [hG7.2.1]; omega
  refine r_aload0 (pc2 := 1) dX2_doHopper_0 rfl ?_
  refine r_getR (pc2 := 4) dX2_doHopper_1 rfl fX2_43 (hK_29 hS) (hR_29_0 hS) ?_
  refine r_getR (pc2 := 7) dX2_doHopper_4 rfl fX2_106 (hK_9 hS) (hR_9_3 hS) ?_
  refine r_iload1 (pc2 := 8) dX2_doHopper_7 rfl ?_
  refine r_iald (z := (((g1 G i).toNat : Nat) : Int)) (pc2 := 9) dX2_doHopper_8 rfl (hK_12 hS) i rfl (by omega) e12 ?_
  refine r_istore2 (pc2 := 10) dX2_doHopper_9 rfl rfl ?_
  refine r_aload0 (pc2 := 11) dX2_doHopper_10 rfl ?_
  refine r_getR (pc2 := 14) dX2_doHopper_11 rfl fX2_47 (hK_29 hS) (hR_29_1 hS) ?_
  refine r_getR (pc2 := 17) dX2_doHopper_14 rfl fX2_145 (hK_19 hS) (hR_19_6 hS) ?_
  refine r_iload2 (pc2 := 18) dX2_doHopper_17 rfl ?_
  refine r_aload0 (pc2 := 19) dX2_doHopper_18 rfl ?_
  refine r_getR (pc2 := 22) dX2_doHopper_19 rfl fX2_43 (hK_29 hS) (hR_29_0 hS) ?_
  refine r_getR (pc2 := 25) dX2_doHopper_22 rfl fX2_109 (hK_9 hS) (hR_9_4 hS) ?_
  refine r_iload1 (pc2 := 26) dX2_doHopper_25 rfl ?_
  refine r_iald (z := (((g2 G i).toNat : Nat) : Int)) (pc2 := 27) dX2_doHopper_26 rfl (hK_13 hS) i rfl (by omega) e13 ?_
  refine r_iast (z := (((g2 G i).toNat : Nat) : Int)) (pc2 := 28) dX2_doHopper_27 rfl (hK_26 hS) (by decide) ((g1 G i).toNat) rfl (by omega) ?_
  refine r_aload0 (pc2 := 29) dX2_doHopper_28 rfl ?_
  refine r_getR (pc2 := 32) dX2_doHopper_29 rfl fX2_47 (hK_29 hS) (hR_29_1 hS) ?_
  refine r_getR (pc2 := 35) dX2_doHopper_32 rfl fX2_148 (hK_19 hS) (hR_19_7 hS) ?_
  refine r_iload2 (pc2 := 36) dX2_doHopper_35 rfl ?_
  refine r_aload0 (pc2 := 37) dX2_doHopper_36 rfl ?_
  refine r_getR (pc2 := 40) dX2_doHopper_37 rfl fX2_43 (hK_29 hS) (hR_29_0 hS) ?_
  refine r_getR (pc2 := 43) dX2_doHopper_40 rfl fX2_115 (hK_9 hS) (hR_9_5 hS) ?_
  refine r_iload1 (pc2 := 44) dX2_doHopper_43 rfl ?_
  refine r_iald (z := (g3 G i)) (pc2 := 45) dX2_doHopper_44 rfl (hK_14 hS) i rfl (by omega) hG7.2.2.1 ?_
  refine r_iast (z := (g3 G i)) (pc2 := 46) dX2_doHopper_45 rfl (hK_27 hS) (by decide) ((g1 G i).toNat) rfl (by omega) ?_
  refine r_aload0 (pc2 := 47) dX2_doHopper_46 rfl ?_
  refine r_getR (pc2 := 50) dX2_doHopper_47 rfl fX2_47 (hK_29 hS) (hR_29_1 hS) ?_
  refine r_getR (pc2 := 53) dX2_doHopper_50 rfl fX2_151 (hK_19 hS) (hR_19_8 hS) ?_
  refine r_iload2 (pc2 := 54) dX2_doHopper_53 rfl ?_
  refine r_aload0 (pc2 := 55) dX2_doHopper_54 rfl ?_
  refine r_getR (pc2 := 58) dX2_doHopper_55 rfl fX2_43 (hK_29 hS) (hR_29_0 hS) ?_
  refine r_getR (pc2 := 61) dX2_doHopper_58 rfl fX2_121 (hK_9 hS) (hR_9_6 hS) ?_
  refine r_iload1 (pc2 := 62) dX2_doHopper_61 rfl ?_
  refine r_iald (z := (g4 G i)) (pc2 := 63) dX2_doHopper_62 rfl (hK_15 hS) i rfl (by omega) hG7.2.2.2 ?_
  refine r_iast (z := (g4 G i)) (pc2 := 64) dX2_doHopper_63 rfl (hK_28 hS) (by decide) ((g1 G i).toNat) rfl (by omega) ?_
  refine r_ret dX2_doHopper_64 rfl ?_
  exact ⟨rfl, rfl⟩
theorem qPut_n1 {k z x y m : Int} {s : qS} (c1 : ¬ (0 ≤ x ∧ x < 13 ∧ 0 ≤ y ∧ y < 12)) : qPut k z x y m s = qRe s 1 := by unfold qPut; rw [if_pos c1]
theorem qPut_n2 {k z x y m : Int} {s : qS} {q : Nat} (hq : q = (13 * y + x).toNat) (c1 : 0 ≤ x ∧ x < 13 ∧ 0 ≤ y ∧ y < 12) (c2 : ¬ s.1.1.1 q = 0) : qPut k z x y m s = qRe s 2 := by subst hq; unfold qPut; rw [if_neg (fun c => c c1), if_pos c2]
theorem qPut_n3 {k z x y m : Int} {s : qS} {q : Nat} (hq : q = (13 * y + x).toNat) (c1 : 0 ≤ x ∧ x < 13 ∧ 0 ≤ y ∧ y < 12) (c2 : s.1.1.1 q = 0) (c3 : (k = 4 ∨ k = 7 ∨ k = 9) ∧ mvc s.1.1.1 156 = 16) : qPut k z x y m s = qRe s 3 := by subst hq; unfold qPut; rw [if_neg (fun c => c c1), if_neg (fun c => c c2), if_pos c3]
theorem CQ.re {M : pM} {s : qS} {ix : Nat → Nat} {z : Int} (h : CQ M s ix) : CQ M (qRe s z) ix := h
/-- frame T stays as it is, while the board changes -/
theorem CQ.put {M M2 : pM} {s : qS} {ix ix2 : Nat → Nat} {q : Nat} {K Z V : Int} (h : CQ M s ix) (h2 : CB M2 (((va_up s.1.1.1 q K, va_up s.1.1.2 q Z), s.1.2)) (va_up s.2.1 q V) ix2) (hf : frA M M2) : CQ (pI M2 29 14 ((s.2.2.2.1 + 1 : Nat) : Int)) (qSet s q K Z V) ix2 := by
  refine ⟨CB.of h2 (fun a a1 a2 => by rw [pI_ne (by omega)]) (fun k hk => by rw [pI_ne (by decide)]) rfl, ?_, pI_at⟩
  rw [pI_nk (by decide), hf.2.1 29 13 (by unfold okA; omega)]; exact h.2.1
set_option maxHeartbeats 4000000 in
theorem c_X2_doPut0 {d : Nat} {M : pM} {G : gPr} {u ns : Nat → Nat} {t i i2 st e tl q : Nat} {sx sy dx dy X Y : Int} {s : qS} {ix : Nat → Nat} (hS : sOk M.1) (hG : CG M G) (hP : PV G u ns) (hi : i < gS G) (hF : FT M t i2 st e tl sx sy dx dy 0) (ht : t < 156) (hA : gA G i = 10) (hQ : CQ M s ix) (ho : qOk s) (hX : dx + (g3 G i) = X) (hY : dy + g4 G i = Y) (hXb : -50000 ≤ X ∧ X ≤ 50000) (hYb : -50000 ≤ Y ∧ Y ≤ 50000) (hq : q = (13 * Y + X).toNat) : Ct (d + 3) 0 0 yX2_doPut [.ref 29, .int (iI ((i : Nat) : Int))] M (fun v M2 => ∃ s2 ix2, qPut (g1 G i) (g2 G i) X Y 0 s = s2 ∧ v = some (.int (iI s2.2.2.2.2)) ∧ CQ M2 s2 ix2 ∧ frC t M M2 ∧ M2.2.1 29 12 = ((t : Nat) : Int) ∧ M2.2.1 30 t = M.2.1 30 t) := by
  refine ct_in (d := (d + 2)) kX2_doPut rfl (by decide) (Nat.le_of_ble_eq_true rfl) (by decide) ?_
  show Go (Ct (d + 2)) _ yX2_doPut cX2_doPut (some .int) 0 0 0 [some (.ref 29), some (.int (iI ((i : Nat) : Int))), none, none, none, none, none] [] M
  have hl := hP.2.2.2.2 i hi
  have h125 := hP.1.1
  have hE1 := hl.2.1
  have hE2 := hl.2.2.1
  have hLV := hl.2.2.2.1
  have hG9 := hG.2.2.2.1 i hi
  have hE : M.2.1 11 i = (((gE G i).toNat : Nat) : Int) := by rw [hG9.2.1]; omega
  have hV := hLV.1 hA
  have hG7 := hG9.2.2 (by omega)
  have hmc := ho.1.2.2
  have hpl := ho.2.2
  have hz : 0 ≤ g2 G i ∧ g2 G i ≤ 9 := by
    by_cases d6 : g1 G i = 6
    · have := hV.2.2.2.2.1 d6; omega
    · by_cases d7 : g1 G i = 7
      · have := hV.2.2.2.2.2.1 d7; omega
      · by_cases d4 : g1 G i = 4 ∨ g1 G i = 9
        · have := hV.2.2.2.1 d4; omega
        · have := hV.2.2.2.2.2.2 (by omega) (by omega) d6 d7; omega
  have hz4 : g1 G i = 4 ∨ g1 G i = 9 → 0 ≤ g2 G i ∧ g2 G i ≤ 1 := hV.2.2.2.1
  have hk := hV.1
  refine r_aload0 (pc2 := 1) dX2_doPut_0 rfl ?_
  refine r_getR (pc2 := 4) dX2_doPut_1 rfl fX2_30 (hK_29 hS) (hR_29_8 hS) ?_
  refine r_aload0 (pc2 := 5) dX2_doPut_4 rfl ?_
  refine r_getI (z := ((t : Nat) : Int)) (pc2 := 8) dX2_doPut_5 rfl (Or.inl fX2_51) (hK_29 hS) hF.1 ?_
  refine r_iald (z := dx) (pc2 := 9) dX2_doPut_8 rfl (hK_36 hS) t rfl (by omega) hF.2.2.2.2.2.2.2.1 ?_
  refine r_aload0 (pc2 := 10) dX2_doPut_9 rfl ?_
  refine r_aload0 (pc2 := 11) dX2_doPut_10 rfl ?_
  refine r_getR (pc2 := 14) dX2_doPut_11 rfl fX2_43 (hK_29 hS) (hR_29_0 hS) ?_
  refine r_getR (pc2 := 17) dX2_doPut_14 rfl fX2_115 (hK_9 hS) (hR_9_5 hS) ?_
  refine r_iload1 (pc2 := 18) dX2_doPut_17 rfl ?_
  refine r_iald (z := (g3 G i)) (pc2 := 19) dX2_doPut_18 rfl (hK_14 hS) i rfl (by omega) hG7.2.2.1 ?_
  refine r_cv1 (pc2 := 22) dX2_doPut_19 rfl vX2_118 (hK_29 hS) (Nat.le_of_ble_eq_true rfl) (c_X2_turned (d := d + 1) (t := t) (z := g3 G i) (m := 0) hS hF.1 (by omega) hF.2.2.2.2.2.2.2.2.2 (by decide)) ?_
  rintro _ M9 ⟨rfl, h9⟩
  rw [h9, tn0]
  show Go (Ct (d + 2)) _ yX2_doPut cX2_doPut (some .int) 0 0 22 [some (.ref 29), some (.int (iI ((i : Nat) : Int))), none, none, none, none, none] [.int (iI (g3 G i)), .int (iI dx)] M
  refine r_iadd (c := X) (pc2 := 23) dX2_doPut_22 rfl hX ?_
  refine r_istore2 (pc2 := 24) dX2_doPut_23 rfl rfl ?_
  refine r_aload0 (pc2 := 25) dX2_doPut_24 rfl ?_
  refine r_getR (pc2 := 28) dX2_doPut_25 rfl fX2_33 (hK_29 hS) (hR_29_9 hS) ?_
  refine r_aload0 (pc2 := 29) dX2_doPut_28 rfl ?_
  refine r_getI (z := ((t : Nat) : Int)) (pc2 := 32) dX2_doPut_29 rfl (Or.inl fX2_51) (hK_29 hS) hF.1 ?_
  refine r_iald (z := dy) (pc2 := 33) dX2_doPut_32 rfl (hK_37 hS) t rfl (by omega) hF.2.2.2.2.2.2.2.2.1 ?_
  refine r_aload0 (pc2 := 34) dX2_doPut_33 rfl ?_
  refine r_getR (pc2 := 37) dX2_doPut_34 rfl fX2_43 (hK_29 hS) (hR_29_0 hS) ?_
  refine r_getR (pc2 := 40) dX2_doPut_37 rfl fX2_121 (hK_9 hS) (hR_9_6 hS) ?_
  refine r_iload1 (pc2 := 41) dX2_doPut_40 rfl ?_
  refine r_iald (z := (g4 G i)) (pc2 := 42) dX2_doPut_41 rfl (hK_15 hS) i rfl (by omega) hG7.2.2.2 ?_
  refine r_iadd (c := Y) (pc2 := 43) dX2_doPut_42 rfl hY ?_
  refine r_istore3 (pc2 := 44) dX2_doPut_43 rfl rfl ?_
  refine r_iload2 (pc2 := 45) dX2_doPut_44 rfl ?_
  refine r_iload3 (pc2 := 46) dX2_doPut_45 rfl ?_
  refine r_cs2 (pc2 := 49) dX2_doPut_46 rfl sX2_124 (by decide) (c_X11_isPlace (d := d + 1) (c := X) (r := Y) ⟨by omega, by omega⟩ ⟨by omega, by omega⟩) ?_
  by_cases hin : 0 ≤ X ∧ X < 13 ∧ 0 ≤ Y ∧ Y < 12
  · rintro _ M9 ⟨rfl, h9⟩
    rw [h9, if_pos hin]
    show Go (Ct (d + 2)) _ yX2_doPut cX2_doPut (some .int) 0 0 49 [some (.ref 29), some (.int (iI ((i : Nat) : Int))), some (.int (iI X)), some (.int (iI Y)), none, none, none] [.int (iI 1)] M
    refine r_ifne (tgt := 54) (pc2 := 52) dX2_doPut_49 rfl (by decide) ⟨by omega, by omega⟩ (fun _ => ?_) (fun h9 => absurd h9 (by decide))
    refine r_iload2 (pc2 := 55) dX2_doPut_54 rfl ?_
    refine r_iload3 (pc2 := 56) dX2_doPut_55 rfl ?_
    refine r_cs2 (pc2 := 59) dX2_doPut_56 rfl sX2_128 (by decide) (c_X11_placeOf (d := d + 1) (c := X) (r := Y)) ?_
    rintro _ M9 ⟨rfl, h9⟩
    rw [h9]
    rw [show 13 * Y + X = ((q : Nat) : Int) by omega]
    have hq1 : q < 156 := by omega
    have hpc := bK_pc ho.2.1 q hq1
    show Go (Ct (d + 2)) _ yX2_doPut cX2_doPut (some .int) 0 0 59 [some (.ref 29), some (.int (iI ((i : Nat) : Int))), some (.int (iI X)), some (.int (iI Y)), none, none, none] [.int (iI ((q : Nat) : Int))] M
    refine r_istore4 (pc2 := 61) dX2_doPut_59 rfl rfl ?_
    refine r_aload0 (pc2 := 62) dX2_doPut_61 rfl ?_
    refine r_getR (pc2 := 65) dX2_doPut_62 rfl fX2_47 (hK_29 hS) (hR_29_1 hS) ?_
    refine r_getR (pc2 := 68) dX2_doPut_65 rfl fX2_132 (hK_19 hS) (hR_19_0 hS) ?_
    refine r_iload4 (pc2 := 70) dX2_doPut_68 rfl ?_
    refine r_iald (z := (s.1.1.1 q)) (pc2 := 71) dX2_doPut_70 rfl (hK_20 hS) q rfl (by omega) (hQ.1.1.1 q hq1) ?_
    refine r_ifeq (tgt := 76) (pc2 := 74) dX2_doPut_71 rfl (by decide) ⟨by omega, by omega⟩ (fun b_71 => ?_) (fun b_71 => ?_)
    · refine r_aload0 (pc2 := 77) dX2_doPut_76 rfl ?_
      refine r_getR (pc2 := 80) dX2_doPut_77 rfl fX2_43 (hK_29 hS) (hR_29_0 hS) ?_
      refine r_getR (pc2 := 83) dX2_doPut_80 rfl fX2_106 (hK_9 hS) (hR_9_3 hS) ?_
      refine r_iload1 (pc2 := 84) dX2_doPut_83 rfl ?_
      refine r_iald (z := (g1 G i)) (pc2 := 85) dX2_doPut_84 rfl (hK_12 hS) i rfl (by omega) hG7.1 ?_
      refine r_istore5 (pc2 := 87) dX2_doPut_85 rfl rfl ?_
      refine r_aload0 (pc2 := 88) dX2_doPut_87 rfl ?_
      refine r_getR (pc2 := 91) dX2_doPut_88 rfl fX2_43 (hK_29 hS) (hR_29_0 hS) ?_
      refine r_getR (pc2 := 94) dX2_doPut_91 rfl fX2_109 (hK_9 hS) (hR_9_4 hS) ?_
      refine r_iload1 (pc2 := 95) dX2_doPut_94 rfl ?_
      refine r_iald (z := (g2 G i)) (pc2 := 96) dX2_doPut_95 rfl (hK_13 hS) i rfl (by omega) hG7.2.1 ?_
      refine r_istore6 (pc2 := 98) dX2_doPut_96 rfl rfl ?_
      refine r_iload5 (pc2 := 100) dX2_doPut_98 rfl ?_
      refine r_cs1 (pc2 := 103) dX2_doPut_100 rfl sX2_135 (by decide) (c_X0_isMoving (d := d + 1) (k := g1 G i) ⟨by omega, by omega⟩) ?_
      by_cases hmv : g1 G i = 4 ∨ g1 G i = 7 ∨ g1 G i = 9
      · rintro _ M9 ⟨rfl, h9⟩
        rw [h9, if_pos hmv]
        show Go (Ct (d + 2)) _ yX2_doPut cX2_doPut (some .int) 0 0 103 [some (.ref 29), some (.int (iI ((i : Nat) : Int))), some (.int (iI X)), some (.int (iI Y)), some (.int (iI ((q : Nat) : Int))), some (.int (iI (g1 G i))), some (.int (iI (g2 G i)))] [.int (iI 1)] M
        refine r_ifeq (tgt := 120) (pc2 := 106) dX2_doPut_103 rfl (by decide) ⟨by omega, by omega⟩ (fun h9 => absurd h9 (by decide)) (fun _ => ?_)
        refine r_aload0 (pc2 := 107) dX2_doPut_106 rfl ?_
        refine r_getR (pc2 := 110) dX2_doPut_107 rfl fX2_47 (hK_29 hS) (hR_29_1 hS) ?_
        refine r_getI (z := ((mvc s.1.1.1 156 : Nat) : Int)) (pc2 := 113) dX2_doPut_110 rfl (Or.inl fX2_139) (hK_19 hS) hQ.1.2.2.1.2 ?_
        refine r_bipush (pc2 := 115) dX2_doPut_113 rfl (by decide) (by decide) ?_
        refine r_iclt (tgt := 120) (pc2 := 118) dX2_doPut_115 rfl (by decide) ⟨by omega, by omega⟩ ⟨by omega, by omega⟩ (fun b_115 => ?_) (fun b_115 => ?_)
        · refine r_aload0 (pc2 := 121) dX2_doPut_120 rfl ?_
          refine r_getR (pc2 := 124) dX2_doPut_121 rfl fX2_36 (hK_29 hS) (hR_29_10 hS) ?_
          refine r_aload0 (pc2 := 125) dX2_doPut_124 rfl ?_
          refine r_getI (z := ((t : Nat) : Int)) (pc2 := 128) dX2_doPut_125 rfl (Or.inl fX2_51) (hK_29 hS) hF.1 ?_
          refine r_zald (z := 0) (pc2 := 129) dX2_doPut_128 rfl (hK_38 hS) t rfl (by omega) hF.2.2.2.2.2.2.2.2.2 ?_
          refine r_ifeq (tgt := 179) (pc2 := 132) dX2_doPut_129 rfl (by decide) ⟨by omega, by omega⟩ (fun _ => ?_) (fun h9 => absurd h9 (by decide))
          refine r_aload0 (pc2 := 180) dX2_doPut_179 rfl ?_
          refine r_getR (pc2 := 183) dX2_doPut_180 rfl fX2_47 (hK_29 hS) (hR_29_1 hS) ?_
          refine r_iload4 (pc2 := 185) dX2_doPut_183 rfl ?_
          refine r_iload5 (pc2 := 187) dX2_doPut_185 rfl ?_
          refine r_iload6 (pc2 := 189) dX2_doPut_187 rfl ?_
          refine r_cv3 (pc2 := 192) dX2_doPut_189 rfl vX2_142 (hK_19 hS) (by decide) (c_X0_add (d := d) (q := q) (K := (g1 G i)) (v := (g2 G i)) (D := s.1) (sh := s.2.1) (ix := ix) hS hQ.1 hq1 (by omega) ⟨by omega, by omega⟩ ⟨by omega, by omega⟩ (fun c => by omega) (fun c => by unfold mvg at c; omega)) ?_
          rintro _ M8 ⟨rfl, ⟨ix2, b8⟩, f8⟩
          show Go (Ct (d + 2)) _ yX2_doPut cX2_doPut (some .int) 0 0 192 [some (.ref 29), some (.int (iI ((i : Nat) : Int))), some (.int (iI X)), some (.int (iI Y)), some (.int (iI ((q : Nat) : Int))), some (.int (iI (g1 G i))), some (.int (iI (g2 G i)))] [] M8
          refine r_aload0 (pc2 := 193) dX2_doPut_192 rfl ?_
          refine r_dup (pc2 := 194) dX2_doPut_193 rfl rfl ?_
          refine r_getI (z := ((s.2.2.2.1 : Nat) : Int)) (pc2 := 197) dX2_doPut_194 rfl (Or.inl fX2_58) (hK_29 (by rw [f8.1]; exact hS)) (by rw [f8.2.1 29 14 (by unfold okA; omega)]; exact hQ.2.2) ?_
          refine r_iconst (pc2 := 198) dX2_doPut_197 rfl ?_
          refine r_iadd (c := ((s.2.2.2.1 + 1 : Nat) : Int)) (pc2 := 199) dX2_doPut_198 rfl (by omega) ?_
          refine r_putI (z := ((s.2.2.2.1 + 1 : Nat) : Int)) (pc2 := 202) dX2_doPut_199 rfl fX2_58 (w2_14 _) (hK_29 (by rw [f8.1]; exact hS)) (by decide) ?_
          refine r_iconst (pc2 := 203) dX2_doPut_202 rfl ?_
          refine r_ireti dX2_doPut_203 rfl ?_
          refine ⟨qSet s q (g1 G i) (if (g1 G i) = 4 ∨ (g1 G i) = 9 then 0 else (g2 G i)) (if (g1 G i) = 4 ∨ (g1 G i) = 9 then (g2 G i) else 0), ix2, ?_, rfl, hQ.put b8 f8, f8.c.I (by unfold okC; omega), ?_, ?_⟩
          · exact qPut_y hq hin (by omega) (fun c => by omega) (by unfold kMir; (repeat' split) <;> omega) (by (repeat' split) <;> omega) (by (repeat' split) <;> omega)
          · rw [pI_nk (by decide), f8.2.1 29 12 (by unfold okA; omega)]; exact hF.1
          · rw [pI_ne (by decide), f8.2.1 30 t (by unfold okA; omega)]
        · refine r_iconst (pc2 := 119) dX2_doPut_118 rfl ?_
          refine r_ireti dX2_doPut_119 rfl ?_
          refine ⟨qRe s 3, ix, by rw [qPut_n3 hq hin (by omega) ⟨hmv, by omega⟩], rfl, hQ.re, frC.rf, hF.1, rfl⟩
      · rintro _ M9 ⟨rfl, h9⟩
        rw [h9, if_neg hmv]
        show Go (Ct (d + 2)) _ yX2_doPut cX2_doPut (some .int) 0 0 103 [some (.ref 29), some (.int (iI ((i : Nat) : Int))), some (.int (iI X)), some (.int (iI Y)), some (.int (iI ((q : Nat) : Int))), some (.int (iI (g1 G i))), some (.int (iI (g2 G i)))] [.int (iI 0)] M
        refine r_ifeq (tgt := 120) (pc2 := 106) dX2_doPut_103 rfl (by decide) ⟨by omega, by omega⟩ (fun _ => ?_) (fun h9 => absurd h9 (by decide))
        refine r_aload0 (pc2 := 121) dX2_doPut_120 rfl ?_
        refine r_getR (pc2 := 124) dX2_doPut_121 rfl fX2_36 (hK_29 hS) (hR_29_10 hS) ?_
        refine r_aload0 (pc2 := 125) dX2_doPut_124 rfl ?_
        refine r_getI (z := ((t : Nat) : Int)) (pc2 := 128) dX2_doPut_125 rfl (Or.inl fX2_51) (hK_29 hS) hF.1 ?_
        refine r_zald (z := 0) (pc2 := 129) dX2_doPut_128 rfl (hK_38 hS) t rfl (by omega) hF.2.2.2.2.2.2.2.2.2 ?_
        refine r_ifeq (tgt := 179) (pc2 := 132) dX2_doPut_129 rfl (by decide) ⟨by omega, by omega⟩ (fun _ => ?_) (fun h9 => absurd h9 (by decide))
        refine r_aload0 (pc2 := 180) dX2_doPut_179 rfl ?_
        refine r_getR (pc2 := 183) dX2_doPut_180 rfl fX2_47 (hK_29 hS) (hR_29_1 hS) ?_
        refine r_iload4 (pc2 := 185) dX2_doPut_183 rfl ?_
        refine r_iload5 (pc2 := 187) dX2_doPut_185 rfl ?_
        refine r_iload6 (pc2 := 189) dX2_doPut_187 rfl ?_
        refine r_cv3 (pc2 := 192) dX2_doPut_189 rfl vX2_142 (hK_19 hS) (by decide) (c_X0_add (d := d) (q := q) (K := (g1 G i)) (v := (g2 G i)) (D := s.1) (sh := s.2.1) (ix := ix) hS hQ.1 hq1 (by omega) ⟨by omega, by omega⟩ ⟨by omega, by omega⟩ (fun c => by omega) (fun c => by unfold mvg at c; omega)) ?_
        rintro _ M8 ⟨rfl, ⟨ix2, b8⟩, f8⟩
        show Go (Ct (d + 2)) _ yX2_doPut cX2_doPut (some .int) 0 0 192 [some (.ref 29), some (.int (iI ((i : Nat) : Int))), some (.int (iI X)), some (.int (iI Y)), some (.int (iI ((q : Nat) : Int))), some (.int (iI (g1 G i))), some (.int (iI (g2 G i)))] [] M8
        refine r_aload0 (pc2 := 193) dX2_doPut_192 rfl ?_
        refine r_dup (pc2 := 194) dX2_doPut_193 rfl rfl ?_
        refine r_getI (z := ((s.2.2.2.1 : Nat) : Int)) (pc2 := 197) dX2_doPut_194 rfl (Or.inl fX2_58) (hK_29 (by rw [f8.1]; exact hS)) (by rw [f8.2.1 29 14 (by unfold okA; omega)]; exact hQ.2.2) ?_
        refine r_iconst (pc2 := 198) dX2_doPut_197 rfl ?_
        refine r_iadd (c := ((s.2.2.2.1 + 1 : Nat) : Int)) (pc2 := 199) dX2_doPut_198 rfl (by omega) ?_
        refine r_putI (z := ((s.2.2.2.1 + 1 : Nat) : Int)) (pc2 := 202) dX2_doPut_199 rfl fX2_58 (w2_14 _) (hK_29 (by rw [f8.1]; exact hS)) (by decide) ?_
        refine r_iconst (pc2 := 203) dX2_doPut_202 rfl ?_
        refine r_ireti dX2_doPut_203 rfl ?_
        refine ⟨qSet s q (g1 G i) (if (g1 G i) = 4 ∨ (g1 G i) = 9 then 0 else (g2 G i)) (if (g1 G i) = 4 ∨ (g1 G i) = 9 then (g2 G i) else 0), ix2, ?_, rfl, hQ.put b8 f8, f8.c.I (by unfold okC; omega), ?_, ?_⟩
        · exact qPut_y hq hin (by omega) (fun c => by omega) (by unfold kMir; (repeat' split) <;> omega) (by (repeat' split) <;> omega) (by (repeat' split) <;> omega)
        · rw [pI_nk (by decide), f8.2.1 29 12 (by unfold okA; omega)]; exact hF.1
        · rw [pI_ne (by decide), f8.2.1 30 t (by unfold okA; omega)]
    · refine r_iconst (pc2 := 75) dX2_doPut_74 rfl ?_
      refine r_ireti dX2_doPut_75 rfl ?_
      refine ⟨qRe s 2, ix, by rw [qPut_n2 hq hin b_71], rfl, hQ.re, frC.rf, hF.1, rfl⟩
  · rintro _ M9 ⟨rfl, h9⟩
    rw [h9, if_neg hin]
    show Go (Ct (d + 2)) _ yX2_doPut cX2_doPut (some .int) 0 0 49 [some (.ref 29), some (.int (iI ((i : Nat) : Int))), some (.int (iI X)), some (.int (iI Y)), none, none, none] [.int (iI 0)] M
    refine r_ifne (tgt := 54) (pc2 := 52) dX2_doPut_49 rfl (by decide) ⟨by omega, by omega⟩ (fun h9 => absurd h9 (by decide)) (fun _ => ?_)
    refine r_iconst (pc2 := 53) dX2_doPut_52 rfl ?_
    refine r_ireti dX2_doPut_53 rfl ?_
    refine ⟨qRe s 1, ix, by rw [qPut_n1 hin], rfl, hQ.re, frC.rf, hF.1, rfl⟩
set_option maxHeartbeats 4000000 in
theorem c_X2_doPut1 {d : Nat} {M : pM} {G : gPr} {u ns : Nat → Nat} {t i i2 st e tl q : Nat} {sx sy dx dy X Y : Int} {s : qS} {ix : Nat → Nat} (hS : sOk M.1) (hG : CG M G) (hP : PV G u ns) (hi : i < gS G) (hF : FT M t i2 st e tl sx sy dx dy 1) (ht : t < 156) (hA : gA G i = 10) (hQ : CQ M s ix) (ho : qOk s) (hX : dx + (-g3 G i) = X) (hY : dy + g4 G i = Y) (hXb : -50000 ≤ X ∧ X ≤ 50000) (hYb : -50000 ≤ Y ∧ Y ≤ 50000) (hq : q = (13 * Y + X).toNat) : Ct (d + 3) 0 0 yX2_doPut [.ref 29, .int (iI ((i : Nat) : Int))] M (fun v M2 => ∃ s2 ix2, qPut (g1 G i) (g2 G i) X Y 1 s = s2 ∧ v = some (.int (iI s2.2.2.2.2)) ∧ CQ M2 s2 ix2 ∧ frC t M M2 ∧ M2.2.1 29 12 = ((t : Nat) : Int) ∧ M2.2.1 30 t = M.2.1 30 t) := by
  refine ct_in (d := (d + 2)) kX2_doPut rfl (by decide) (Nat.le_of_ble_eq_true rfl) (by decide) ?_
  show Go (Ct (d + 2)) _ yX2_doPut cX2_doPut (some .int) 0 0 0 [some (.ref 29), some (.int (iI ((i : Nat) : Int))), none, none, none, none, none] [] M
  have hl := hP.2.2.2.2 i hi
  have h125 := hP.1.1
  have hE1 := hl.2.1
  have hE2 := hl.2.2.1
  have hLV := hl.2.2.2.1
  have hG9 := hG.2.2.2.1 i hi
  have hE : M.2.1 11 i = (((gE G i).toNat : Nat) : Int) := by rw [hG9.2.1]; omega
  have hV := hLV.1 hA
  have hG7 := hG9.2.2 (by omega)
  have hmc := ho.1.2.2
  have hpl := ho.2.2
  have hz : 0 ≤ g2 G i ∧ g2 G i ≤ 9 := by
    by_cases d6 : g1 G i = 6
    · have := hV.2.2.2.2.1 d6; omega
    · by_cases d7 : g1 G i = 7
      · have := hV.2.2.2.2.2.1 d7; omega
      · by_cases d4 : g1 G i = 4 ∨ g1 G i = 9
        · have := hV.2.2.2.1 d4; omega
        · have := hV.2.2.2.2.2.2 (by omega) (by omega) d6 d7; omega
  have hz4 : g1 G i = 4 ∨ g1 G i = 9 → 0 ≤ g2 G i ∧ g2 G i ≤ 1 := hV.2.2.2.1
  have hk := hV.1
  refine r_aload0 (pc2 := 1) dX2_doPut_0 rfl ?_
  refine r_getR (pc2 := 4) dX2_doPut_1 rfl fX2_30 (hK_29 hS) (hR_29_8 hS) ?_
  refine r_aload0 (pc2 := 5) dX2_doPut_4 rfl ?_
  refine r_getI (z := ((t : Nat) : Int)) (pc2 := 8) dX2_doPut_5 rfl (Or.inl fX2_51) (hK_29 hS) hF.1 ?_
  refine r_iald (z := dx) (pc2 := 9) dX2_doPut_8 rfl (hK_36 hS) t rfl (by omega) hF.2.2.2.2.2.2.2.1 ?_
  refine r_aload0 (pc2 := 10) dX2_doPut_9 rfl ?_
  refine r_aload0 (pc2 := 11) dX2_doPut_10 rfl ?_
  refine r_getR (pc2 := 14) dX2_doPut_11 rfl fX2_43 (hK_29 hS) (hR_29_0 hS) ?_
  refine r_getR (pc2 := 17) dX2_doPut_14 rfl fX2_115 (hK_9 hS) (hR_9_5 hS) ?_
  refine r_iload1 (pc2 := 18) dX2_doPut_17 rfl ?_
  refine r_iald (z := (g3 G i)) (pc2 := 19) dX2_doPut_18 rfl (hK_14 hS) i rfl (by omega) hG7.2.2.1 ?_
  refine r_cv1 (pc2 := 22) dX2_doPut_19 rfl vX2_118 (hK_29 hS) (Nat.le_of_ble_eq_true rfl) (c_X2_turned (d := d + 1) (t := t) (z := g3 G i) (m := 1) hS hF.1 (by omega) hF.2.2.2.2.2.2.2.2.2 (by decide)) ?_
  rintro _ M9 ⟨rfl, h9⟩
  rw [h9, tn1]
  show Go (Ct (d + 2)) _ yX2_doPut cX2_doPut (some .int) 0 0 22 [some (.ref 29), some (.int (iI ((i : Nat) : Int))), none, none, none, none, none] [.int (iI (-g3 G i)), .int (iI dx)] M
  refine r_iadd (c := X) (pc2 := 23) dX2_doPut_22 rfl hX ?_
  refine r_istore2 (pc2 := 24) dX2_doPut_23 rfl rfl ?_
  refine r_aload0 (pc2 := 25) dX2_doPut_24 rfl ?_
  refine r_getR (pc2 := 28) dX2_doPut_25 rfl fX2_33 (hK_29 hS) (hR_29_9 hS) ?_
  refine r_aload0 (pc2 := 29) dX2_doPut_28 rfl ?_
  refine r_getI (z := ((t : Nat) : Int)) (pc2 := 32) dX2_doPut_29 rfl (Or.inl fX2_51) (hK_29 hS) hF.1 ?_
  refine r_iald (z := dy) (pc2 := 33) dX2_doPut_32 rfl (hK_37 hS) t rfl (by omega) hF.2.2.2.2.2.2.2.2.1 ?_
  refine r_aload0 (pc2 := 34) dX2_doPut_33 rfl ?_
  refine r_getR (pc2 := 37) dX2_doPut_34 rfl fX2_43 (hK_29 hS) (hR_29_0 hS) ?_
  refine r_getR (pc2 := 40) dX2_doPut_37 rfl fX2_121 (hK_9 hS) (hR_9_6 hS) ?_
  refine r_iload1 (pc2 := 41) dX2_doPut_40 rfl ?_
  refine r_iald (z := (g4 G i)) (pc2 := 42) dX2_doPut_41 rfl (hK_15 hS) i rfl (by omega) hG7.2.2.2 ?_
  refine r_iadd (c := Y) (pc2 := 43) dX2_doPut_42 rfl hY ?_
  refine r_istore3 (pc2 := 44) dX2_doPut_43 rfl rfl ?_
  refine r_iload2 (pc2 := 45) dX2_doPut_44 rfl ?_
  refine r_iload3 (pc2 := 46) dX2_doPut_45 rfl ?_
  refine r_cs2 (pc2 := 49) dX2_doPut_46 rfl sX2_124 (by decide) (c_X11_isPlace (d := d + 1) (c := X) (r := Y) ⟨by omega, by omega⟩ ⟨by omega, by omega⟩) ?_
  by_cases hin : 0 ≤ X ∧ X < 13 ∧ 0 ≤ Y ∧ Y < 12
  · rintro _ M9 ⟨rfl, h9⟩
    rw [h9, if_pos hin]
    show Go (Ct (d + 2)) _ yX2_doPut cX2_doPut (some .int) 0 0 49 [some (.ref 29), some (.int (iI ((i : Nat) : Int))), some (.int (iI X)), some (.int (iI Y)), none, none, none] [.int (iI 1)] M
    refine r_ifne (tgt := 54) (pc2 := 52) dX2_doPut_49 rfl (by decide) ⟨by omega, by omega⟩ (fun _ => ?_) (fun h9 => absurd h9 (by decide))
    refine r_iload2 (pc2 := 55) dX2_doPut_54 rfl ?_
    refine r_iload3 (pc2 := 56) dX2_doPut_55 rfl ?_
    refine r_cs2 (pc2 := 59) dX2_doPut_56 rfl sX2_128 (by decide) (c_X11_placeOf (d := d + 1) (c := X) (r := Y)) ?_
    rintro _ M9 ⟨rfl, h9⟩
    rw [h9]
    rw [show 13 * Y + X = ((q : Nat) : Int) by omega]
    have hq1 : q < 156 := by omega
    have hpc := bK_pc ho.2.1 q hq1
    show Go (Ct (d + 2)) _ yX2_doPut cX2_doPut (some .int) 0 0 59 [some (.ref 29), some (.int (iI ((i : Nat) : Int))), some (.int (iI X)), some (.int (iI Y)), none, none, none] [.int (iI ((q : Nat) : Int))] M
    refine r_istore4 (pc2 := 61) dX2_doPut_59 rfl rfl ?_
    refine r_aload0 (pc2 := 62) dX2_doPut_61 rfl ?_
    refine r_getR (pc2 := 65) dX2_doPut_62 rfl fX2_47 (hK_29 hS) (hR_29_1 hS) ?_
    refine r_getR (pc2 := 68) dX2_doPut_65 rfl fX2_132 (hK_19 hS) (hR_19_0 hS) ?_
    refine r_iload4 (pc2 := 70) dX2_doPut_68 rfl ?_
    refine r_iald (z := (s.1.1.1 q)) (pc2 := 71) dX2_doPut_70 rfl (hK_20 hS) q rfl (by omega) (hQ.1.1.1 q hq1) ?_
    refine r_ifeq (tgt := 76) (pc2 := 74) dX2_doPut_71 rfl (by decide) ⟨by omega, by omega⟩ (fun b_71 => ?_) (fun b_71 => ?_)
    · refine r_aload0 (pc2 := 77) dX2_doPut_76 rfl ?_
      refine r_getR (pc2 := 80) dX2_doPut_77 rfl fX2_43 (hK_29 hS) (hR_29_0 hS) ?_
      refine r_getR (pc2 := 83) dX2_doPut_80 rfl fX2_106 (hK_9 hS) (hR_9_3 hS) ?_
      refine r_iload1 (pc2 := 84) dX2_doPut_83 rfl ?_
      refine r_iald (z := (g1 G i)) (pc2 := 85) dX2_doPut_84 rfl (hK_12 hS) i rfl (by omega) hG7.1 ?_
      refine r_istore5 (pc2 := 87) dX2_doPut_85 rfl rfl ?_
      refine r_aload0 (pc2 := 88) dX2_doPut_87 rfl ?_
      refine r_getR (pc2 := 91) dX2_doPut_88 rfl fX2_43 (hK_29 hS) (hR_29_0 hS) ?_
      refine r_getR (pc2 := 94) dX2_doPut_91 rfl fX2_109 (hK_9 hS) (hR_9_4 hS) ?_
      refine r_iload1 (pc2 := 95) dX2_doPut_94 rfl ?_
      refine r_iald (z := (g2 G i)) (pc2 := 96) dX2_doPut_95 rfl (hK_13 hS) i rfl (by omega) hG7.2.1 ?_
      refine r_istore6 (pc2 := 98) dX2_doPut_96 rfl rfl ?_
      refine r_iload5 (pc2 := 100) dX2_doPut_98 rfl ?_
      refine r_cs1 (pc2 := 103) dX2_doPut_100 rfl sX2_135 (by decide) (c_X0_isMoving (d := d + 1) (k := g1 G i) ⟨by omega, by omega⟩) ?_
      by_cases hmv : g1 G i = 4 ∨ g1 G i = 7 ∨ g1 G i = 9
      · rintro _ M9 ⟨rfl, h9⟩
        rw [h9, if_pos hmv]
        show Go (Ct (d + 2)) _ yX2_doPut cX2_doPut (some .int) 0 0 103 [some (.ref 29), some (.int (iI ((i : Nat) : Int))), some (.int (iI X)), some (.int (iI Y)), some (.int (iI ((q : Nat) : Int))), some (.int (iI (g1 G i))), some (.int (iI (g2 G i)))] [.int (iI 1)] M
        refine r_ifeq (tgt := 120) (pc2 := 106) dX2_doPut_103 rfl (by decide) ⟨by omega, by omega⟩ (fun h9 => absurd h9 (by decide)) (fun _ => ?_)
        refine r_aload0 (pc2 := 107) dX2_doPut_106 rfl ?_
        refine r_getR (pc2 := 110) dX2_doPut_107 rfl fX2_47 (hK_29 hS) (hR_29_1 hS) ?_
        refine r_getI (z := ((mvc s.1.1.1 156 : Nat) : Int)) (pc2 := 113) dX2_doPut_110 rfl (Or.inl fX2_139) (hK_19 hS) hQ.1.2.2.1.2 ?_
        refine r_bipush (pc2 := 115) dX2_doPut_113 rfl (by decide) (by decide) ?_
        refine r_iclt (tgt := 120) (pc2 := 118) dX2_doPut_115 rfl (by decide) ⟨by omega, by omega⟩ ⟨by omega, by omega⟩ (fun b_115 => ?_) (fun b_115 => ?_)
        · refine r_aload0 (pc2 := 121) dX2_doPut_120 rfl ?_
          refine r_getR (pc2 := 124) dX2_doPut_121 rfl fX2_36 (hK_29 hS) (hR_29_10 hS) ?_
          refine r_aload0 (pc2 := 125) dX2_doPut_124 rfl ?_
          refine r_getI (z := ((t : Nat) : Int)) (pc2 := 128) dX2_doPut_125 rfl (Or.inl fX2_51) (hK_29 hS) hF.1 ?_
          refine r_zald (z := 1) (pc2 := 129) dX2_doPut_128 rfl (hK_38 hS) t rfl (by omega) hF.2.2.2.2.2.2.2.2.2 ?_
          refine r_ifeq (tgt := 179) (pc2 := 132) dX2_doPut_129 rfl (by decide) ⟨by omega, by omega⟩ (fun h9 => absurd h9 (by decide)) (fun _ => ?_)
          refine r_iload5 (pc2 := 134) dX2_doPut_132 rfl ?_
          refine r_iconst (pc2 := 135) dX2_doPut_134 rfl ?_
          refine r_iceq (tgt := 145) (pc2 := 138) dX2_doPut_135 rfl (by decide) ⟨by omega, by omega⟩ ⟨by omega, by omega⟩ (fun b_135 => ?_) (fun b_135 => ?_)
          · refine r_iconst (pc2 := 146) dX2_doPut_145 rfl ?_
            refine r_iload6 (pc2 := 148) dX2_doPut_146 rfl ?_
            refine r_isub (c := (1 - (g2 G i))) (pc2 := 149) dX2_doPut_148 rfl rfl ?_
            refine r_goto (tgt := 154) dX2_doPut_149 (by decide) ?_
            refine r_istore6 (pc2 := 156) dX2_doPut_154 rfl rfl ?_
            refine r_iload5 (pc2 := 158) dX2_doPut_156 rfl ?_
            refine r_iconst (pc2 := 159) dX2_doPut_158 rfl ?_
            refine r_iceq (tgt := 168) (pc2 := 162) dX2_doPut_159 rfl (by decide) ⟨by omega, by omega⟩ ⟨by omega, by omega⟩ (fun b_159 => ?_) (fun b_159 => ?_)
            · refine r_iconst (pc2 := 169) dX2_doPut_168 rfl ?_
              refine r_iload5 (pc2 := 171) dX2_doPut_169 rfl ?_
              refine r_isub (c := (3 - (g1 G i))) (pc2 := 172) dX2_doPut_171 rfl rfl ?_
              refine r_goto (tgt := 177) dX2_doPut_172 (by decide) ?_
              refine r_istore5 (pc2 := 179) dX2_doPut_177 rfl rfl ?_
              refine r_aload0 (pc2 := 180) dX2_doPut_179 rfl ?_
              refine r_getR (pc2 := 183) dX2_doPut_180 rfl fX2_47 (hK_29 hS) (hR_29_1 hS) ?_
              refine r_iload4 (pc2 := 185) dX2_doPut_183 rfl ?_
              refine r_iload5 (pc2 := 187) dX2_doPut_185 rfl ?_
              refine r_iload6 (pc2 := 189) dX2_doPut_187 rfl ?_
              refine r_cv3 (pc2 := 192) dX2_doPut_189 rfl vX2_142 (hK_19 hS) (by decide) (c_X0_add (d := d) (q := q) (K := (3 - (g1 G i))) (v := (1 - (g2 G i))) (D := s.1) (sh := s.2.1) (ix := ix) hS hQ.1 hq1 (by omega) ⟨by omega, by omega⟩ ⟨by omega, by omega⟩ (fun c => by omega) (fun c => by unfold mvg at c; omega)) ?_
              rintro _ M8 ⟨rfl, ⟨ix2, b8⟩, f8⟩
              show Go (Ct (d + 2)) _ yX2_doPut cX2_doPut (some .int) 0 0 192 [some (.ref 29), some (.int (iI ((i : Nat) : Int))), some (.int (iI X)), some (.int (iI Y)), some (.int (iI ((q : Nat) : Int))), some (.int (iI (3 - (g1 G i)))), some (.int (iI (1 - (g2 G i))))] [] M8
              refine r_aload0 (pc2 := 193) dX2_doPut_192 rfl ?_
              refine r_dup (pc2 := 194) dX2_doPut_193 rfl rfl ?_
              refine r_getI (z := ((s.2.2.2.1 : Nat) : Int)) (pc2 := 197) dX2_doPut_194 rfl (Or.inl fX2_58) (hK_29 (by rw [f8.1]; exact hS)) (by rw [f8.2.1 29 14 (by unfold okA; omega)]; exact hQ.2.2) ?_
              refine r_iconst (pc2 := 198) dX2_doPut_197 rfl ?_
              refine r_iadd (c := ((s.2.2.2.1 + 1 : Nat) : Int)) (pc2 := 199) dX2_doPut_198 rfl (by omega) ?_
              refine r_putI (z := ((s.2.2.2.1 + 1 : Nat) : Int)) (pc2 := 202) dX2_doPut_199 rfl fX2_58 (w2_14 _) (hK_29 (by rw [f8.1]; exact hS)) (by decide) ?_
              refine r_iconst (pc2 := 203) dX2_doPut_202 rfl ?_
              refine r_ireti dX2_doPut_203 rfl ?_
              refine ⟨qSet s q (3 - (g1 G i)) (if (3 - (g1 G i)) = 4 ∨ (3 - (g1 G i)) = 9 then 0 else (1 - (g2 G i))) (if (3 - (g1 G i)) = 4 ∨ (3 - (g1 G i)) = 9 then (1 - (g2 G i)) else 0), ix2, ?_, rfl, hQ.put b8 f8, f8.c.I (by unfold okC; omega), ?_, ?_⟩
              · exact qPut_y hq hin (by omega) (fun c => by omega) (by unfold kMir; (repeat' split) <;> omega) (by (repeat' split) <;> omega) (by (repeat' split) <;> omega)
              · rw [pI_nk (by decide), f8.2.1 29 12 (by unfold okA; omega)]; exact hF.1
              · rw [pI_ne (by decide), f8.2.1 30 t (by unfold okA; omega)]
            · refine r_iload5 (pc2 := 164) dX2_doPut_162 rfl ?_
              refine r_iconst (pc2 := 165) dX2_doPut_164 rfl ?_
              refine r_icne (tgt := 175) (pc2 := 168) dX2_doPut_165 rfl (by decide) ⟨by omega, by omega⟩ ⟨by omega, by omega⟩ (fun b_165 => ?_) (fun b_165 => ?_)
              · refine r_iload5 (pc2 := 177) dX2_doPut_175 rfl ?_
                refine r_istore5 (pc2 := 179) dX2_doPut_177 rfl rfl ?_
                refine r_aload0 (pc2 := 180) dX2_doPut_179 rfl ?_
                refine r_getR (pc2 := 183) dX2_doPut_180 rfl fX2_47 (hK_29 hS) (hR_29_1 hS) ?_
                refine r_iload4 (pc2 := 185) dX2_doPut_183 rfl ?_
                refine r_iload5 (pc2 := 187) dX2_doPut_185 rfl ?_
                refine r_iload6 (pc2 := 189) dX2_doPut_187 rfl ?_
                refine r_cv3 (pc2 := 192) dX2_doPut_189 rfl vX2_142 (hK_19 hS) (by decide) (c_X0_add (d := d) (q := q) (K := (g1 G i)) (v := (1 - (g2 G i))) (D := s.1) (sh := s.2.1) (ix := ix) hS hQ.1 hq1 (by omega) ⟨by omega, by omega⟩ ⟨by omega, by omega⟩ (fun c => by omega) (fun c => by unfold mvg at c; omega)) ?_
                rintro _ M8 ⟨rfl, ⟨ix2, b8⟩, f8⟩
                show Go (Ct (d + 2)) _ yX2_doPut cX2_doPut (some .int) 0 0 192 [some (.ref 29), some (.int (iI ((i : Nat) : Int))), some (.int (iI X)), some (.int (iI Y)), some (.int (iI ((q : Nat) : Int))), some (.int (iI (g1 G i))), some (.int (iI (1 - (g2 G i))))] [] M8
                refine r_aload0 (pc2 := 193) dX2_doPut_192 rfl ?_
                refine r_dup (pc2 := 194) dX2_doPut_193 rfl rfl ?_
                refine r_getI (z := ((s.2.2.2.1 : Nat) : Int)) (pc2 := 197) dX2_doPut_194 rfl (Or.inl fX2_58) (hK_29 (by rw [f8.1]; exact hS)) (by rw [f8.2.1 29 14 (by unfold okA; omega)]; exact hQ.2.2) ?_
                refine r_iconst (pc2 := 198) dX2_doPut_197 rfl ?_
                refine r_iadd (c := ((s.2.2.2.1 + 1 : Nat) : Int)) (pc2 := 199) dX2_doPut_198 rfl (by omega) ?_
                refine r_putI (z := ((s.2.2.2.1 + 1 : Nat) : Int)) (pc2 := 202) dX2_doPut_199 rfl fX2_58 (w2_14 _) (hK_29 (by rw [f8.1]; exact hS)) (by decide) ?_
                refine r_iconst (pc2 := 203) dX2_doPut_202 rfl ?_
                refine r_ireti dX2_doPut_203 rfl ?_
                refine ⟨qSet s q (g1 G i) (if (g1 G i) = 4 ∨ (g1 G i) = 9 then 0 else (1 - (g2 G i))) (if (g1 G i) = 4 ∨ (g1 G i) = 9 then (1 - (g2 G i)) else 0), ix2, ?_, rfl, hQ.put b8 f8, f8.c.I (by unfold okC; omega), ?_, ?_⟩
                · exact qPut_y hq hin (by omega) (fun c => by omega) (by unfold kMir; (repeat' split) <;> omega) (by (repeat' split) <;> omega) (by (repeat' split) <;> omega)
                · rw [pI_nk (by decide), f8.2.1 29 12 (by unfold okA; omega)]; exact hF.1
                · rw [pI_ne (by decide), f8.2.1 30 t (by unfold okA; omega)]
              · refine r_iconst (pc2 := 169) dX2_doPut_168 rfl ?_
                refine r_iload5 (pc2 := 171) dX2_doPut_169 rfl ?_
                refine r_isub (c := (3 - (g1 G i))) (pc2 := 172) dX2_doPut_171 rfl rfl ?_
                refine r_goto (tgt := 177) dX2_doPut_172 (by decide) ?_
                refine r_istore5 (pc2 := 179) dX2_doPut_177 rfl rfl ?_
                refine r_aload0 (pc2 := 180) dX2_doPut_179 rfl ?_
                refine r_getR (pc2 := 183) dX2_doPut_180 rfl fX2_47 (hK_29 hS) (hR_29_1 hS) ?_
                refine r_iload4 (pc2 := 185) dX2_doPut_183 rfl ?_
                refine r_iload5 (pc2 := 187) dX2_doPut_185 rfl ?_
                refine r_iload6 (pc2 := 189) dX2_doPut_187 rfl ?_
                refine r_cv3 (pc2 := 192) dX2_doPut_189 rfl vX2_142 (hK_19 hS) (by decide) (c_X0_add (d := d) (q := q) (K := (3 - (g1 G i))) (v := (1 - (g2 G i))) (D := s.1) (sh := s.2.1) (ix := ix) hS hQ.1 hq1 (by omega) ⟨by omega, by omega⟩ ⟨by omega, by omega⟩ (fun c => by omega) (fun c => by unfold mvg at c; omega)) ?_
                rintro _ M8 ⟨rfl, ⟨ix2, b8⟩, f8⟩
                show Go (Ct (d + 2)) _ yX2_doPut cX2_doPut (some .int) 0 0 192 [some (.ref 29), some (.int (iI ((i : Nat) : Int))), some (.int (iI X)), some (.int (iI Y)), some (.int (iI ((q : Nat) : Int))), some (.int (iI (3 - (g1 G i)))), some (.int (iI (1 - (g2 G i))))] [] M8
                refine r_aload0 (pc2 := 193) dX2_doPut_192 rfl ?_
                refine r_dup (pc2 := 194) dX2_doPut_193 rfl rfl ?_
                refine r_getI (z := ((s.2.2.2.1 : Nat) : Int)) (pc2 := 197) dX2_doPut_194 rfl (Or.inl fX2_58) (hK_29 (by rw [f8.1]; exact hS)) (by rw [f8.2.1 29 14 (by unfold okA; omega)]; exact hQ.2.2) ?_
                refine r_iconst (pc2 := 198) dX2_doPut_197 rfl ?_
                refine r_iadd (c := ((s.2.2.2.1 + 1 : Nat) : Int)) (pc2 := 199) dX2_doPut_198 rfl (by omega) ?_
                refine r_putI (z := ((s.2.2.2.1 + 1 : Nat) : Int)) (pc2 := 202) dX2_doPut_199 rfl fX2_58 (w2_14 _) (hK_29 (by rw [f8.1]; exact hS)) (by decide) ?_
                refine r_iconst (pc2 := 203) dX2_doPut_202 rfl ?_
                refine r_ireti dX2_doPut_203 rfl ?_
                refine ⟨qSet s q (3 - (g1 G i)) (if (3 - (g1 G i)) = 4 ∨ (3 - (g1 G i)) = 9 then 0 else (1 - (g2 G i))) (if (3 - (g1 G i)) = 4 ∨ (3 - (g1 G i)) = 9 then (1 - (g2 G i)) else 0), ix2, ?_, rfl, hQ.put b8 f8, f8.c.I (by unfold okC; omega), ?_, ?_⟩
                · exact qPut_y hq hin (by omega) (fun c => by omega) (by unfold kMir; (repeat' split) <;> omega) (by (repeat' split) <;> omega) (by (repeat' split) <;> omega)
                · rw [pI_nk (by decide), f8.2.1 29 12 (by unfold okA; omega)]; exact hF.1
                · rw [pI_ne (by decide), f8.2.1 30 t (by unfold okA; omega)]
          · refine r_iload5 (pc2 := 140) dX2_doPut_138 rfl ?_
            refine r_bipush (pc2 := 142) dX2_doPut_140 rfl (by decide) (by decide) ?_
            refine r_icne (tgt := 152) (pc2 := 145) dX2_doPut_142 rfl (by decide) ⟨by omega, by omega⟩ ⟨by omega, by omega⟩ (fun b_142 => ?_) (fun b_142 => ?_)
            · refine r_iload6 (pc2 := 154) dX2_doPut_152 rfl ?_
              refine r_istore6 (pc2 := 156) dX2_doPut_154 rfl rfl ?_
              refine r_iload5 (pc2 := 158) dX2_doPut_156 rfl ?_
              refine r_iconst (pc2 := 159) dX2_doPut_158 rfl ?_
              refine r_iceq (tgt := 168) (pc2 := 162) dX2_doPut_159 rfl (by decide) ⟨by omega, by omega⟩ ⟨by omega, by omega⟩ (fun b_159 => ?_) (fun b_159 => ?_)
              · refine r_iconst (pc2 := 169) dX2_doPut_168 rfl ?_
                refine r_iload5 (pc2 := 171) dX2_doPut_169 rfl ?_
                refine r_isub (c := (3 - (g1 G i))) (pc2 := 172) dX2_doPut_171 rfl rfl ?_
                refine r_goto (tgt := 177) dX2_doPut_172 (by decide) ?_
                refine r_istore5 (pc2 := 179) dX2_doPut_177 rfl rfl ?_
                refine r_aload0 (pc2 := 180) dX2_doPut_179 rfl ?_
                refine r_getR (pc2 := 183) dX2_doPut_180 rfl fX2_47 (hK_29 hS) (hR_29_1 hS) ?_
                refine r_iload4 (pc2 := 185) dX2_doPut_183 rfl ?_
                refine r_iload5 (pc2 := 187) dX2_doPut_185 rfl ?_
                refine r_iload6 (pc2 := 189) dX2_doPut_187 rfl ?_
                refine r_cv3 (pc2 := 192) dX2_doPut_189 rfl vX2_142 (hK_19 hS) (by decide) (c_X0_add (d := d) (q := q) (K := (3 - (g1 G i))) (v := (g2 G i)) (D := s.1) (sh := s.2.1) (ix := ix) hS hQ.1 hq1 (by omega) ⟨by omega, by omega⟩ ⟨by omega, by omega⟩ (fun c => by omega) (fun c => by unfold mvg at c; omega)) ?_
                rintro _ M8 ⟨rfl, ⟨ix2, b8⟩, f8⟩
                show Go (Ct (d + 2)) _ yX2_doPut cX2_doPut (some .int) 0 0 192 [some (.ref 29), some (.int (iI ((i : Nat) : Int))), some (.int (iI X)), some (.int (iI Y)), some (.int (iI ((q : Nat) : Int))), some (.int (iI (3 - (g1 G i)))), some (.int (iI (g2 G i)))] [] M8
                refine r_aload0 (pc2 := 193) dX2_doPut_192 rfl ?_
                refine r_dup (pc2 := 194) dX2_doPut_193 rfl rfl ?_
                refine r_getI (z := ((s.2.2.2.1 : Nat) : Int)) (pc2 := 197) dX2_doPut_194 rfl (Or.inl fX2_58) (hK_29 (by rw [f8.1]; exact hS)) (by rw [f8.2.1 29 14 (by unfold okA; omega)]; exact hQ.2.2) ?_
                refine r_iconst (pc2 := 198) dX2_doPut_197 rfl ?_
                refine r_iadd (c := ((s.2.2.2.1 + 1 : Nat) : Int)) (pc2 := 199) dX2_doPut_198 rfl (by omega) ?_
                refine r_putI (z := ((s.2.2.2.1 + 1 : Nat) : Int)) (pc2 := 202) dX2_doPut_199 rfl fX2_58 (w2_14 _) (hK_29 (by rw [f8.1]; exact hS)) (by decide) ?_
                refine r_iconst (pc2 := 203) dX2_doPut_202 rfl ?_
                refine r_ireti dX2_doPut_203 rfl ?_
                refine ⟨qSet s q (3 - (g1 G i)) (if (3 - (g1 G i)) = 4 ∨ (3 - (g1 G i)) = 9 then 0 else (g2 G i)) (if (3 - (g1 G i)) = 4 ∨ (3 - (g1 G i)) = 9 then (g2 G i) else 0), ix2, ?_, rfl, hQ.put b8 f8, f8.c.I (by unfold okC; omega), ?_, ?_⟩
                · exact qPut_y hq hin (by omega) (fun c => by omega) (by unfold kMir; (repeat' split) <;> omega) (by (repeat' split) <;> omega) (by (repeat' split) <;> omega)
                · rw [pI_nk (by decide), f8.2.1 29 12 (by unfold okA; omega)]; exact hF.1
                · rw [pI_ne (by decide), f8.2.1 30 t (by unfold okA; omega)]
              · refine r_iload5 (pc2 := 164) dX2_doPut_162 rfl ?_
                refine r_iconst (pc2 := 165) dX2_doPut_164 rfl ?_
                refine r_icne (tgt := 175) (pc2 := 168) dX2_doPut_165 rfl (by decide) ⟨by omega, by omega⟩ ⟨by omega, by omega⟩ (fun b_165 => ?_) (fun b_165 => ?_)
                · refine r_iload5 (pc2 := 177) dX2_doPut_175 rfl ?_
                  refine r_istore5 (pc2 := 179) dX2_doPut_177 rfl rfl ?_
                  refine r_aload0 (pc2 := 180) dX2_doPut_179 rfl ?_
                  refine r_getR (pc2 := 183) dX2_doPut_180 rfl fX2_47 (hK_29 hS) (hR_29_1 hS) ?_
                  refine r_iload4 (pc2 := 185) dX2_doPut_183 rfl ?_
                  refine r_iload5 (pc2 := 187) dX2_doPut_185 rfl ?_
                  refine r_iload6 (pc2 := 189) dX2_doPut_187 rfl ?_
                  refine r_cv3 (pc2 := 192) dX2_doPut_189 rfl vX2_142 (hK_19 hS) (by decide) (c_X0_add (d := d) (q := q) (K := (g1 G i)) (v := (g2 G i)) (D := s.1) (sh := s.2.1) (ix := ix) hS hQ.1 hq1 (by omega) ⟨by omega, by omega⟩ ⟨by omega, by omega⟩ (fun c => by omega) (fun c => by unfold mvg at c; omega)) ?_
                  rintro _ M8 ⟨rfl, ⟨ix2, b8⟩, f8⟩
                  show Go (Ct (d + 2)) _ yX2_doPut cX2_doPut (some .int) 0 0 192 [some (.ref 29), some (.int (iI ((i : Nat) : Int))), some (.int (iI X)), some (.int (iI Y)), some (.int (iI ((q : Nat) : Int))), some (.int (iI (g1 G i))), some (.int (iI (g2 G i)))] [] M8
                  refine r_aload0 (pc2 := 193) dX2_doPut_192 rfl ?_
                  refine r_dup (pc2 := 194) dX2_doPut_193 rfl rfl ?_
                  refine r_getI (z := ((s.2.2.2.1 : Nat) : Int)) (pc2 := 197) dX2_doPut_194 rfl (Or.inl fX2_58) (hK_29 (by rw [f8.1]; exact hS)) (by rw [f8.2.1 29 14 (by unfold okA; omega)]; exact hQ.2.2) ?_
                  refine r_iconst (pc2 := 198) dX2_doPut_197 rfl ?_
                  refine r_iadd (c := ((s.2.2.2.1 + 1 : Nat) : Int)) (pc2 := 199) dX2_doPut_198 rfl (by omega) ?_
                  refine r_putI (z := ((s.2.2.2.1 + 1 : Nat) : Int)) (pc2 := 202) dX2_doPut_199 rfl fX2_58 (w2_14 _) (hK_29 (by rw [f8.1]; exact hS)) (by decide) ?_
                  refine r_iconst (pc2 := 203) dX2_doPut_202 rfl ?_
                  refine r_ireti dX2_doPut_203 rfl ?_
                  refine ⟨qSet s q (g1 G i) (if (g1 G i) = 4 ∨ (g1 G i) = 9 then 0 else (g2 G i)) (if (g1 G i) = 4 ∨ (g1 G i) = 9 then (g2 G i) else 0), ix2, ?_, rfl, hQ.put b8 f8, f8.c.I (by unfold okC; omega), ?_, ?_⟩
                  · exact qPut_y hq hin (by omega) (fun c => by omega) (by unfold kMir; (repeat' split) <;> omega) (by (repeat' split) <;> omega) (by (repeat' split) <;> omega)
                  · rw [pI_nk (by decide), f8.2.1 29 12 (by unfold okA; omega)]; exact hF.1
                  · rw [pI_ne (by decide), f8.2.1 30 t (by unfold okA; omega)]
                · refine r_iconst (pc2 := 169) dX2_doPut_168 rfl ?_
                  refine r_iload5 (pc2 := 171) dX2_doPut_169 rfl ?_
                  refine r_isub (c := (3 - (g1 G i))) (pc2 := 172) dX2_doPut_171 rfl rfl ?_
                  refine r_goto (tgt := 177) dX2_doPut_172 (by decide) ?_
                  refine r_istore5 (pc2 := 179) dX2_doPut_177 rfl rfl ?_
                  refine r_aload0 (pc2 := 180) dX2_doPut_179 rfl ?_
                  refine r_getR (pc2 := 183) dX2_doPut_180 rfl fX2_47 (hK_29 hS) (hR_29_1 hS) ?_
                  refine r_iload4 (pc2 := 185) dX2_doPut_183 rfl ?_
                  refine r_iload5 (pc2 := 187) dX2_doPut_185 rfl ?_
                  refine r_iload6 (pc2 := 189) dX2_doPut_187 rfl ?_
                  refine r_cv3 (pc2 := 192) dX2_doPut_189 rfl vX2_142 (hK_19 hS) (by decide) (c_X0_add (d := d) (q := q) (K := (3 - (g1 G i))) (v := (g2 G i)) (D := s.1) (sh := s.2.1) (ix := ix) hS hQ.1 hq1 (by omega) ⟨by omega, by omega⟩ ⟨by omega, by omega⟩ (fun c => by omega) (fun c => by unfold mvg at c; omega)) ?_
                  rintro _ M8 ⟨rfl, ⟨ix2, b8⟩, f8⟩
                  show Go (Ct (d + 2)) _ yX2_doPut cX2_doPut (some .int) 0 0 192 [some (.ref 29), some (.int (iI ((i : Nat) : Int))), some (.int (iI X)), some (.int (iI Y)), some (.int (iI ((q : Nat) : Int))), some (.int (iI (3 - (g1 G i)))), some (.int (iI (g2 G i)))] [] M8
                  refine r_aload0 (pc2 := 193) dX2_doPut_192 rfl ?_
                  refine r_dup (pc2 := 194) dX2_doPut_193 rfl rfl ?_
                  refine r_getI (z := ((s.2.2.2.1 : Nat) : Int)) (pc2 := 197) dX2_doPut_194 rfl (Or.inl fX2_58) (hK_29 (by rw [f8.1]; exact hS)) (by rw [f8.2.1 29 14 (by unfold okA; omega)]; exact hQ.2.2) ?_
                  refine r_iconst (pc2 := 198) dX2_doPut_197 rfl ?_
                  refine r_iadd (c := ((s.2.2.2.1 + 1 : Nat) : Int)) (pc2 := 199) dX2_doPut_198 rfl (by omega) ?_
                  refine r_putI (z := ((s.2.2.2.1 + 1 : Nat) : Int)) (pc2 := 202) dX2_doPut_199 rfl fX2_58 (w2_14 _) (hK_29 (by rw [f8.1]; exact hS)) (by decide) ?_
                  refine r_iconst (pc2 := 203) dX2_doPut_202 rfl ?_
                  refine r_ireti dX2_doPut_203 rfl ?_
                  refine ⟨qSet s q (3 - (g1 G i)) (if (3 - (g1 G i)) = 4 ∨ (3 - (g1 G i)) = 9 then 0 else (g2 G i)) (if (3 - (g1 G i)) = 4 ∨ (3 - (g1 G i)) = 9 then (g2 G i) else 0), ix2, ?_, rfl, hQ.put b8 f8, f8.c.I (by unfold okC; omega), ?_, ?_⟩
                  · exact qPut_y hq hin (by omega) (fun c => by omega) (by unfold kMir; (repeat' split) <;> omega) (by (repeat' split) <;> omega) (by (repeat' split) <;> omega)
                  · rw [pI_nk (by decide), f8.2.1 29 12 (by unfold okA; omega)]; exact hF.1
                  · rw [pI_ne (by decide), f8.2.1 30 t (by unfold okA; omega)]
            · refine r_iconst (pc2 := 146) dX2_doPut_145 rfl ?_
              refine r_iload6 (pc2 := 148) dX2_doPut_146 rfl ?_
              refine r_isub (c := (1 - (g2 G i))) (pc2 := 149) dX2_doPut_148 rfl rfl ?_
              refine r_goto (tgt := 154) dX2_doPut_149 (by decide) ?_
              refine r_istore6 (pc2 := 156) dX2_doPut_154 rfl rfl ?_
              refine r_iload5 (pc2 := 158) dX2_doPut_156 rfl ?_
              refine r_iconst (pc2 := 159) dX2_doPut_158 rfl ?_
              refine r_iceq (tgt := 168) (pc2 := 162) dX2_doPut_159 rfl (by decide) ⟨by omega, by omega⟩ ⟨by omega, by omega⟩ (fun b_159 => ?_) (fun b_159 => ?_)
              · refine r_iconst (pc2 := 169) dX2_doPut_168 rfl ?_
                refine r_iload5 (pc2 := 171) dX2_doPut_169 rfl ?_
                refine r_isub (c := (3 - (g1 G i))) (pc2 := 172) dX2_doPut_171 rfl rfl ?_
                refine r_goto (tgt := 177) dX2_doPut_172 (by decide) ?_
                refine r_istore5 (pc2 := 179) dX2_doPut_177 rfl rfl ?_
                refine r_aload0 (pc2 := 180) dX2_doPut_179 rfl ?_
                refine r_getR (pc2 := 183) dX2_doPut_180 rfl fX2_47 (hK_29 hS) (hR_29_1 hS) ?_
                refine r_iload4 (pc2 := 185) dX2_doPut_183 rfl ?_
                refine r_iload5 (pc2 := 187) dX2_doPut_185 rfl ?_
                refine r_iload6 (pc2 := 189) dX2_doPut_187 rfl ?_
                refine r_cv3 (pc2 := 192) dX2_doPut_189 rfl vX2_142 (hK_19 hS) (by decide) (c_X0_add (d := d) (q := q) (K := (3 - (g1 G i))) (v := (1 - (g2 G i))) (D := s.1) (sh := s.2.1) (ix := ix) hS hQ.1 hq1 (by omega) ⟨by omega, by omega⟩ ⟨by omega, by omega⟩ (fun c => by omega) (fun c => by unfold mvg at c; omega)) ?_
                rintro _ M8 ⟨rfl, ⟨ix2, b8⟩, f8⟩
                show Go (Ct (d + 2)) _ yX2_doPut cX2_doPut (some .int) 0 0 192 [some (.ref 29), some (.int (iI ((i : Nat) : Int))), some (.int (iI X)), some (.int (iI Y)), some (.int (iI ((q : Nat) : Int))), some (.int (iI (3 - (g1 G i)))), some (.int (iI (1 - (g2 G i))))] [] M8
                refine r_aload0 (pc2 := 193) dX2_doPut_192 rfl ?_
                refine r_dup (pc2 := 194) dX2_doPut_193 rfl rfl ?_
                refine r_getI (z := ((s.2.2.2.1 : Nat) : Int)) (pc2 := 197) dX2_doPut_194 rfl (Or.inl fX2_58) (hK_29 (by rw [f8.1]; exact hS)) (by rw [f8.2.1 29 14 (by unfold okA; omega)]; exact hQ.2.2) ?_
                refine r_iconst (pc2 := 198) dX2_doPut_197 rfl ?_
                refine r_iadd (c := ((s.2.2.2.1 + 1 : Nat) : Int)) (pc2 := 199) dX2_doPut_198 rfl (by omega) ?_
                refine r_putI (z := ((s.2.2.2.1 + 1 : Nat) : Int)) (pc2 := 202) dX2_doPut_199 rfl fX2_58 (w2_14 _) (hK_29 (by rw [f8.1]; exact hS)) (by decide) ?_
                refine r_iconst (pc2 := 203) dX2_doPut_202 rfl ?_
                refine r_ireti dX2_doPut_203 rfl ?_
                refine ⟨qSet s q (3 - (g1 G i)) (if (3 - (g1 G i)) = 4 ∨ (3 - (g1 G i)) = 9 then 0 else (1 - (g2 G i))) (if (3 - (g1 G i)) = 4 ∨ (3 - (g1 G i)) = 9 then (1 - (g2 G i)) else 0), ix2, ?_, rfl, hQ.put b8 f8, f8.c.I (by unfold okC; omega), ?_, ?_⟩
                · exact qPut_y hq hin (by omega) (fun c => by omega) (by unfold kMir; (repeat' split) <;> omega) (by (repeat' split) <;> omega) (by (repeat' split) <;> omega)
                · rw [pI_nk (by decide), f8.2.1 29 12 (by unfold okA; omega)]; exact hF.1
                · rw [pI_ne (by decide), f8.2.1 30 t (by unfold okA; omega)]
              · refine r_iload5 (pc2 := 164) dX2_doPut_162 rfl ?_
                refine r_iconst (pc2 := 165) dX2_doPut_164 rfl ?_
                refine r_icne (tgt := 175) (pc2 := 168) dX2_doPut_165 rfl (by decide) ⟨by omega, by omega⟩ ⟨by omega, by omega⟩ (fun b_165 => ?_) (fun b_165 => ?_)
                · refine r_iload5 (pc2 := 177) dX2_doPut_175 rfl ?_
                  refine r_istore5 (pc2 := 179) dX2_doPut_177 rfl rfl ?_
                  refine r_aload0 (pc2 := 180) dX2_doPut_179 rfl ?_
                  refine r_getR (pc2 := 183) dX2_doPut_180 rfl fX2_47 (hK_29 hS) (hR_29_1 hS) ?_
                  refine r_iload4 (pc2 := 185) dX2_doPut_183 rfl ?_
                  refine r_iload5 (pc2 := 187) dX2_doPut_185 rfl ?_
                  refine r_iload6 (pc2 := 189) dX2_doPut_187 rfl ?_
                  refine r_cv3 (pc2 := 192) dX2_doPut_189 rfl vX2_142 (hK_19 hS) (by decide) (c_X0_add (d := d) (q := q) (K := (g1 G i)) (v := (1 - (g2 G i))) (D := s.1) (sh := s.2.1) (ix := ix) hS hQ.1 hq1 (by omega) ⟨by omega, by omega⟩ ⟨by omega, by omega⟩ (fun c => by omega) (fun c => by unfold mvg at c; omega)) ?_
                  rintro _ M8 ⟨rfl, ⟨ix2, b8⟩, f8⟩
                  show Go (Ct (d + 2)) _ yX2_doPut cX2_doPut (some .int) 0 0 192 [some (.ref 29), some (.int (iI ((i : Nat) : Int))), some (.int (iI X)), some (.int (iI Y)), some (.int (iI ((q : Nat) : Int))), some (.int (iI (g1 G i))), some (.int (iI (1 - (g2 G i))))] [] M8
                  refine r_aload0 (pc2 := 193) dX2_doPut_192 rfl ?_
                  refine r_dup (pc2 := 194) dX2_doPut_193 rfl rfl ?_
                  refine r_getI (z := ((s.2.2.2.1 : Nat) : Int)) (pc2 := 197) dX2_doPut_194 rfl (Or.inl fX2_58) (hK_29 (by rw [f8.1]; exact hS)) (by rw [f8.2.1 29 14 (by unfold okA; omega)]; exact hQ.2.2) ?_
                  refine r_iconst (pc2 := 198) dX2_doPut_197 rfl ?_
                  refine r_iadd (c := ((s.2.2.2.1 + 1 : Nat) : Int)) (pc2 := 199) dX2_doPut_198 rfl (by omega) ?_
                  refine r_putI (z := ((s.2.2.2.1 + 1 : Nat) : Int)) (pc2 := 202) dX2_doPut_199 rfl fX2_58 (w2_14 _) (hK_29 (by rw [f8.1]; exact hS)) (by decide) ?_
                  refine r_iconst (pc2 := 203) dX2_doPut_202 rfl ?_
                  refine r_ireti dX2_doPut_203 rfl ?_
                  refine ⟨qSet s q (g1 G i) (if (g1 G i) = 4 ∨ (g1 G i) = 9 then 0 else (1 - (g2 G i))) (if (g1 G i) = 4 ∨ (g1 G i) = 9 then (1 - (g2 G i)) else 0), ix2, ?_, rfl, hQ.put b8 f8, f8.c.I (by unfold okC; omega), ?_, ?_⟩
                  · exact qPut_y hq hin (by omega) (fun c => by omega) (by unfold kMir; (repeat' split) <;> omega) (by (repeat' split) <;> omega) (by (repeat' split) <;> omega)
                  · rw [pI_nk (by decide), f8.2.1 29 12 (by unfold okA; omega)]; exact hF.1
                  · rw [pI_ne (by decide), f8.2.1 30 t (by unfold okA; omega)]
                · refine r_iconst (pc2 := 169) dX2_doPut_168 rfl ?_
                  refine r_iload5 (pc2 := 171) dX2_doPut_169 rfl ?_
                  refine r_isub (c := (3 - (g1 G i))) (pc2 := 172) dX2_doPut_171 rfl rfl ?_
                  refine r_goto (tgt := 177) dX2_doPut_172 (by decide) ?_
                  refine r_istore5 (pc2 := 179) dX2_doPut_177 rfl rfl ?_
                  refine r_aload0 (pc2 := 180) dX2_doPut_179 rfl ?_
                  refine r_getR (pc2 := 183) dX2_doPut_180 rfl fX2_47 (hK_29 hS) (hR_29_1 hS) ?_
                  refine r_iload4 (pc2 := 185) dX2_doPut_183 rfl ?_
                  refine r_iload5 (pc2 := 187) dX2_doPut_185 rfl ?_
                  refine r_iload6 (pc2 := 189) dX2_doPut_187 rfl ?_
                  refine r_cv3 (pc2 := 192) dX2_doPut_189 rfl vX2_142 (hK_19 hS) (by decide) (c_X0_add (d := d) (q := q) (K := (3 - (g1 G i))) (v := (1 - (g2 G i))) (D := s.1) (sh := s.2.1) (ix := ix) hS hQ.1 hq1 (by omega) ⟨by omega, by omega⟩ ⟨by omega, by omega⟩ (fun c => by omega) (fun c => by unfold mvg at c; omega)) ?_
                  rintro _ M8 ⟨rfl, ⟨ix2, b8⟩, f8⟩
                  show Go (Ct (d + 2)) _ yX2_doPut cX2_doPut (some .int) 0 0 192 [some (.ref 29), some (.int (iI ((i : Nat) : Int))), some (.int (iI X)), some (.int (iI Y)), some (.int (iI ((q : Nat) : Int))), some (.int (iI (3 - (g1 G i)))), some (.int (iI (1 - (g2 G i))))] [] M8
                  refine r_aload0 (pc2 := 193) dX2_doPut_192 rfl ?_
                  refine r_dup (pc2 := 194) dX2_doPut_193 rfl rfl ?_
                  refine r_getI (z := ((s.2.2.2.1 : Nat) : Int)) (pc2 := 197) dX2_doPut_194 rfl (Or.inl fX2_58) (hK_29 (by rw [f8.1]; exact hS)) (by rw [f8.2.1 29 14 (by unfold okA; omega)]; exact hQ.2.2) ?_
                  refine r_iconst (pc2 := 198) dX2_doPut_197 rfl ?_
                  refine r_iadd (c := ((s.2.2.2.1 + 1 : Nat) : Int)) (pc2 := 199) dX2_doPut_198 rfl (by omega) ?_
                  refine r_putI (z := ((s.2.2.2.1 + 1 : Nat) : Int)) (pc2 := 202) dX2_doPut_199 rfl fX2_58 (w2_14 _) (hK_29 (by rw [f8.1]; exact hS)) (by decide) ?_
                  refine r_iconst (pc2 := 203) dX2_doPut_202 rfl ?_
                  refine r_ireti dX2_doPut_203 rfl ?_
                  refine ⟨qSet s q (3 - (g1 G i)) (if (3 - (g1 G i)) = 4 ∨ (3 - (g1 G i)) = 9 then 0 else (1 - (g2 G i))) (if (3 - (g1 G i)) = 4 ∨ (3 - (g1 G i)) = 9 then (1 - (g2 G i)) else 0), ix2, ?_, rfl, hQ.put b8 f8, f8.c.I (by unfold okC; omega), ?_, ?_⟩
                  · exact qPut_y hq hin (by omega) (fun c => by omega) (by unfold kMir; (repeat' split) <;> omega) (by (repeat' split) <;> omega) (by (repeat' split) <;> omega)
                  · rw [pI_nk (by decide), f8.2.1 29 12 (by unfold okA; omega)]; exact hF.1
                  · rw [pI_ne (by decide), f8.2.1 30 t (by unfold okA; omega)]
        · refine r_iconst (pc2 := 119) dX2_doPut_118 rfl ?_
          refine r_ireti dX2_doPut_119 rfl ?_
          refine ⟨qRe s 3, ix, by rw [qPut_n3 hq hin (by omega) ⟨hmv, by omega⟩], rfl, hQ.re, frC.rf, hF.1, rfl⟩
      · rintro _ M9 ⟨rfl, h9⟩
        rw [h9, if_neg hmv]
        show Go (Ct (d + 2)) _ yX2_doPut cX2_doPut (some .int) 0 0 103 [some (.ref 29), some (.int (iI ((i : Nat) : Int))), some (.int (iI X)), some (.int (iI Y)), some (.int (iI ((q : Nat) : Int))), some (.int (iI (g1 G i))), some (.int (iI (g2 G i)))] [.int (iI 0)] M
        refine r_ifeq (tgt := 120) (pc2 := 106) dX2_doPut_103 rfl (by decide) ⟨by omega, by omega⟩ (fun _ => ?_) (fun h9 => absurd h9 (by decide))
        refine r_aload0 (pc2 := 121) dX2_doPut_120 rfl ?_
        refine r_getR (pc2 := 124) dX2_doPut_121 rfl fX2_36 (hK_29 hS) (hR_29_10 hS) ?_
        refine r_aload0 (pc2 := 125) dX2_doPut_124 rfl ?_
        refine r_getI (z := ((t : Nat) : Int)) (pc2 := 128) dX2_doPut_125 rfl (Or.inl fX2_51) (hK_29 hS) hF.1 ?_
        refine r_zald (z := 1) (pc2 := 129) dX2_doPut_128 rfl (hK_38 hS) t rfl (by omega) hF.2.2.2.2.2.2.2.2.2 ?_
        refine r_ifeq (tgt := 179) (pc2 := 132) dX2_doPut_129 rfl (by decide) ⟨by omega, by omega⟩ (fun h9 => absurd h9 (by decide)) (fun _ => ?_)
        refine r_iload5 (pc2 := 134) dX2_doPut_132 rfl ?_
        refine r_iconst (pc2 := 135) dX2_doPut_134 rfl ?_
        refine r_iceq (tgt := 145) (pc2 := 138) dX2_doPut_135 rfl (by decide) ⟨by omega, by omega⟩ ⟨by omega, by omega⟩ (fun b_135 => ?_) (fun b_135 => ?_)
        · refine r_iconst (pc2 := 146) dX2_doPut_145 rfl ?_
          refine r_iload6 (pc2 := 148) dX2_doPut_146 rfl ?_
          refine r_isub (c := (1 - (g2 G i))) (pc2 := 149) dX2_doPut_148 rfl rfl ?_
          refine r_goto (tgt := 154) dX2_doPut_149 (by decide) ?_
          refine r_istore6 (pc2 := 156) dX2_doPut_154 rfl rfl ?_
          refine r_iload5 (pc2 := 158) dX2_doPut_156 rfl ?_
          refine r_iconst (pc2 := 159) dX2_doPut_158 rfl ?_
          refine r_iceq (tgt := 168) (pc2 := 162) dX2_doPut_159 rfl (by decide) ⟨by omega, by omega⟩ ⟨by omega, by omega⟩ (fun b_159 => ?_) (fun b_159 => ?_)
          · refine r_iconst (pc2 := 169) dX2_doPut_168 rfl ?_
            refine r_iload5 (pc2 := 171) dX2_doPut_169 rfl ?_
            refine r_isub (c := (3 - (g1 G i))) (pc2 := 172) dX2_doPut_171 rfl rfl ?_
            refine r_goto (tgt := 177) dX2_doPut_172 (by decide) ?_
            refine r_istore5 (pc2 := 179) dX2_doPut_177 rfl rfl ?_
            refine r_aload0 (pc2 := 180) dX2_doPut_179 rfl ?_
            refine r_getR (pc2 := 183) dX2_doPut_180 rfl fX2_47 (hK_29 hS) (hR_29_1 hS) ?_
            refine r_iload4 (pc2 := 185) dX2_doPut_183 rfl ?_
            refine r_iload5 (pc2 := 187) dX2_doPut_185 rfl ?_
            refine r_iload6 (pc2 := 189) dX2_doPut_187 rfl ?_
            refine r_cv3 (pc2 := 192) dX2_doPut_189 rfl vX2_142 (hK_19 hS) (by decide) (c_X0_add (d := d) (q := q) (K := (3 - (g1 G i))) (v := (1 - (g2 G i))) (D := s.1) (sh := s.2.1) (ix := ix) hS hQ.1 hq1 (by omega) ⟨by omega, by omega⟩ ⟨by omega, by omega⟩ (fun c => by omega) (fun c => by unfold mvg at c; omega)) ?_
            rintro _ M8 ⟨rfl, ⟨ix2, b8⟩, f8⟩
            show Go (Ct (d + 2)) _ yX2_doPut cX2_doPut (some .int) 0 0 192 [some (.ref 29), some (.int (iI ((i : Nat) : Int))), some (.int (iI X)), some (.int (iI Y)), some (.int (iI ((q : Nat) : Int))), some (.int (iI (3 - (g1 G i)))), some (.int (iI (1 - (g2 G i))))] [] M8
            refine r_aload0 (pc2 := 193) dX2_doPut_192 rfl ?_
            refine r_dup (pc2 := 194) dX2_doPut_193 rfl rfl ?_
            refine r_getI (z := ((s.2.2.2.1 : Nat) : Int)) (pc2 := 197) dX2_doPut_194 rfl (Or.inl fX2_58) (hK_29 (by rw [f8.1]; exact hS)) (by rw [f8.2.1 29 14 (by unfold okA; omega)]; exact hQ.2.2) ?_
            refine r_iconst (pc2 := 198) dX2_doPut_197 rfl ?_
            refine r_iadd (c := ((s.2.2.2.1 + 1 : Nat) : Int)) (pc2 := 199) dX2_doPut_198 rfl (by omega) ?_
            refine r_putI (z := ((s.2.2.2.1 + 1 : Nat) : Int)) (pc2 := 202) dX2_doPut_199 rfl fX2_58 (w2_14 _) (hK_29 (by rw [f8.1]; exact hS)) (by decide) ?_
            refine r_iconst (pc2 := 203) dX2_doPut_202 rfl ?_
            refine r_ireti dX2_doPut_203 rfl ?_
            refine ⟨qSet s q (3 - (g1 G i)) (if (3 - (g1 G i)) = 4 ∨ (3 - (g1 G i)) = 9 then 0 else (1 - (g2 G i))) (if (3 - (g1 G i)) = 4 ∨ (3 - (g1 G i)) = 9 then (1 - (g2 G i)) else 0), ix2, ?_, rfl, hQ.put b8 f8, f8.c.I (by unfold okC; omega), ?_, ?_⟩
            · exact qPut_y hq hin (by omega) (fun c => by omega) (by unfold kMir; (repeat' split) <;> omega) (by (repeat' split) <;> omega) (by (repeat' split) <;> omega)
            · rw [pI_nk (by decide), f8.2.1 29 12 (by unfold okA; omega)]; exact hF.1
            · rw [pI_ne (by decide), f8.2.1 30 t (by unfold okA; omega)]
          · refine r_iload5 (pc2 := 164) dX2_doPut_162 rfl ?_
            refine r_iconst (pc2 := 165) dX2_doPut_164 rfl ?_
            refine r_icne (tgt := 175) (pc2 := 168) dX2_doPut_165 rfl (by decide) ⟨by omega, by omega⟩ ⟨by omega, by omega⟩ (fun b_165 => ?_) (fun b_165 => ?_)
            · refine r_iload5 (pc2 := 177) dX2_doPut_175 rfl ?_
              refine r_istore5 (pc2 := 179) dX2_doPut_177 rfl rfl ?_
              refine r_aload0 (pc2 := 180) dX2_doPut_179 rfl ?_
              refine r_getR (pc2 := 183) dX2_doPut_180 rfl fX2_47 (hK_29 hS) (hR_29_1 hS) ?_
              refine r_iload4 (pc2 := 185) dX2_doPut_183 rfl ?_
              refine r_iload5 (pc2 := 187) dX2_doPut_185 rfl ?_
              refine r_iload6 (pc2 := 189) dX2_doPut_187 rfl ?_
              refine r_cv3 (pc2 := 192) dX2_doPut_189 rfl vX2_142 (hK_19 hS) (by decide) (c_X0_add (d := d) (q := q) (K := (g1 G i)) (v := (1 - (g2 G i))) (D := s.1) (sh := s.2.1) (ix := ix) hS hQ.1 hq1 (by omega) ⟨by omega, by omega⟩ ⟨by omega, by omega⟩ (fun c => by omega) (fun c => by unfold mvg at c; omega)) ?_
              rintro _ M8 ⟨rfl, ⟨ix2, b8⟩, f8⟩
              show Go (Ct (d + 2)) _ yX2_doPut cX2_doPut (some .int) 0 0 192 [some (.ref 29), some (.int (iI ((i : Nat) : Int))), some (.int (iI X)), some (.int (iI Y)), some (.int (iI ((q : Nat) : Int))), some (.int (iI (g1 G i))), some (.int (iI (1 - (g2 G i))))] [] M8
              refine r_aload0 (pc2 := 193) dX2_doPut_192 rfl ?_
              refine r_dup (pc2 := 194) dX2_doPut_193 rfl rfl ?_
              refine r_getI (z := ((s.2.2.2.1 : Nat) : Int)) (pc2 := 197) dX2_doPut_194 rfl (Or.inl fX2_58) (hK_29 (by rw [f8.1]; exact hS)) (by rw [f8.2.1 29 14 (by unfold okA; omega)]; exact hQ.2.2) ?_
              refine r_iconst (pc2 := 198) dX2_doPut_197 rfl ?_
              refine r_iadd (c := ((s.2.2.2.1 + 1 : Nat) : Int)) (pc2 := 199) dX2_doPut_198 rfl (by omega) ?_
              refine r_putI (z := ((s.2.2.2.1 + 1 : Nat) : Int)) (pc2 := 202) dX2_doPut_199 rfl fX2_58 (w2_14 _) (hK_29 (by rw [f8.1]; exact hS)) (by decide) ?_
              refine r_iconst (pc2 := 203) dX2_doPut_202 rfl ?_
              refine r_ireti dX2_doPut_203 rfl ?_
              refine ⟨qSet s q (g1 G i) (if (g1 G i) = 4 ∨ (g1 G i) = 9 then 0 else (1 - (g2 G i))) (if (g1 G i) = 4 ∨ (g1 G i) = 9 then (1 - (g2 G i)) else 0), ix2, ?_, rfl, hQ.put b8 f8, f8.c.I (by unfold okC; omega), ?_, ?_⟩
              · exact qPut_y hq hin (by omega) (fun c => by omega) (by unfold kMir; (repeat' split) <;> omega) (by (repeat' split) <;> omega) (by (repeat' split) <;> omega)
              · rw [pI_nk (by decide), f8.2.1 29 12 (by unfold okA; omega)]; exact hF.1
              · rw [pI_ne (by decide), f8.2.1 30 t (by unfold okA; omega)]
            · refine r_iconst (pc2 := 169) dX2_doPut_168 rfl ?_
              refine r_iload5 (pc2 := 171) dX2_doPut_169 rfl ?_
              refine r_isub (c := (3 - (g1 G i))) (pc2 := 172) dX2_doPut_171 rfl rfl ?_
              refine r_goto (tgt := 177) dX2_doPut_172 (by decide) ?_
              refine r_istore5 (pc2 := 179) dX2_doPut_177 rfl rfl ?_
              refine r_aload0 (pc2 := 180) dX2_doPut_179 rfl ?_
              refine r_getR (pc2 := 183) dX2_doPut_180 rfl fX2_47 (hK_29 hS) (hR_29_1 hS) ?_
              refine r_iload4 (pc2 := 185) dX2_doPut_183 rfl ?_
              refine r_iload5 (pc2 := 187) dX2_doPut_185 rfl ?_
              refine r_iload6 (pc2 := 189) dX2_doPut_187 rfl ?_
              refine r_cv3 (pc2 := 192) dX2_doPut_189 rfl vX2_142 (hK_19 hS) (by decide) (c_X0_add (d := d) (q := q) (K := (3 - (g1 G i))) (v := (1 - (g2 G i))) (D := s.1) (sh := s.2.1) (ix := ix) hS hQ.1 hq1 (by omega) ⟨by omega, by omega⟩ ⟨by omega, by omega⟩ (fun c => by omega) (fun c => by unfold mvg at c; omega)) ?_
              rintro _ M8 ⟨rfl, ⟨ix2, b8⟩, f8⟩
              show Go (Ct (d + 2)) _ yX2_doPut cX2_doPut (some .int) 0 0 192 [some (.ref 29), some (.int (iI ((i : Nat) : Int))), some (.int (iI X)), some (.int (iI Y)), some (.int (iI ((q : Nat) : Int))), some (.int (iI (3 - (g1 G i)))), some (.int (iI (1 - (g2 G i))))] [] M8
              refine r_aload0 (pc2 := 193) dX2_doPut_192 rfl ?_
              refine r_dup (pc2 := 194) dX2_doPut_193 rfl rfl ?_
              refine r_getI (z := ((s.2.2.2.1 : Nat) : Int)) (pc2 := 197) dX2_doPut_194 rfl (Or.inl fX2_58) (hK_29 (by rw [f8.1]; exact hS)) (by rw [f8.2.1 29 14 (by unfold okA; omega)]; exact hQ.2.2) ?_
              refine r_iconst (pc2 := 198) dX2_doPut_197 rfl ?_
              refine r_iadd (c := ((s.2.2.2.1 + 1 : Nat) : Int)) (pc2 := 199) dX2_doPut_198 rfl (by omega) ?_
              refine r_putI (z := ((s.2.2.2.1 + 1 : Nat) : Int)) (pc2 := 202) dX2_doPut_199 rfl fX2_58 (w2_14 _) (hK_29 (by rw [f8.1]; exact hS)) (by decide) ?_
              refine r_iconst (pc2 := 203) dX2_doPut_202 rfl ?_
              refine r_ireti dX2_doPut_203 rfl ?_
              refine ⟨qSet s q (3 - (g1 G i)) (if (3 - (g1 G i)) = 4 ∨ (3 - (g1 G i)) = 9 then 0 else (1 - (g2 G i))) (if (3 - (g1 G i)) = 4 ∨ (3 - (g1 G i)) = 9 then (1 - (g2 G i)) else 0), ix2, ?_, rfl, hQ.put b8 f8, f8.c.I (by unfold okC; omega), ?_, ?_⟩
              · exact qPut_y hq hin (by omega) (fun c => by omega) (by unfold kMir; (repeat' split) <;> omega) (by (repeat' split) <;> omega) (by (repeat' split) <;> omega)
              · rw [pI_nk (by decide), f8.2.1 29 12 (by unfold okA; omega)]; exact hF.1
              · rw [pI_ne (by decide), f8.2.1 30 t (by unfold okA; omega)]
        · refine r_iload5 (pc2 := 140) dX2_doPut_138 rfl ?_
          refine r_bipush (pc2 := 142) dX2_doPut_140 rfl (by decide) (by decide) ?_
          refine r_icne (tgt := 152) (pc2 := 145) dX2_doPut_142 rfl (by decide) ⟨by omega, by omega⟩ ⟨by omega, by omega⟩ (fun b_142 => ?_) (fun b_142 => ?_)
          · refine r_iload6 (pc2 := 154) dX2_doPut_152 rfl ?_
            refine r_istore6 (pc2 := 156) dX2_doPut_154 rfl rfl ?_
            refine r_iload5 (pc2 := 158) dX2_doPut_156 rfl ?_
            refine r_iconst (pc2 := 159) dX2_doPut_158 rfl ?_
            refine r_iceq (tgt := 168) (pc2 := 162) dX2_doPut_159 rfl (by decide) ⟨by omega, by omega⟩ ⟨by omega, by omega⟩ (fun b_159 => ?_) (fun b_159 => ?_)
            · refine r_iconst (pc2 := 169) dX2_doPut_168 rfl ?_
              refine r_iload5 (pc2 := 171) dX2_doPut_169 rfl ?_
              refine r_isub (c := (3 - (g1 G i))) (pc2 := 172) dX2_doPut_171 rfl rfl ?_
              refine r_goto (tgt := 177) dX2_doPut_172 (by decide) ?_
              refine r_istore5 (pc2 := 179) dX2_doPut_177 rfl rfl ?_
              refine r_aload0 (pc2 := 180) dX2_doPut_179 rfl ?_
              refine r_getR (pc2 := 183) dX2_doPut_180 rfl fX2_47 (hK_29 hS) (hR_29_1 hS) ?_
              refine r_iload4 (pc2 := 185) dX2_doPut_183 rfl ?_
              refine r_iload5 (pc2 := 187) dX2_doPut_185 rfl ?_
              refine r_iload6 (pc2 := 189) dX2_doPut_187 rfl ?_
              refine r_cv3 (pc2 := 192) dX2_doPut_189 rfl vX2_142 (hK_19 hS) (by decide) (c_X0_add (d := d) (q := q) (K := (3 - (g1 G i))) (v := (g2 G i)) (D := s.1) (sh := s.2.1) (ix := ix) hS hQ.1 hq1 (by omega) ⟨by omega, by omega⟩ ⟨by omega, by omega⟩ (fun c => by omega) (fun c => by unfold mvg at c; omega)) ?_
              rintro _ M8 ⟨rfl, ⟨ix2, b8⟩, f8⟩
              show Go (Ct (d + 2)) _ yX2_doPut cX2_doPut (some .int) 0 0 192 [some (.ref 29), some (.int (iI ((i : Nat) : Int))), some (.int (iI X)), some (.int (iI Y)), some (.int (iI ((q : Nat) : Int))), some (.int (iI (3 - (g1 G i)))), some (.int (iI (g2 G i)))] [] M8
              refine r_aload0 (pc2 := 193) dX2_doPut_192 rfl ?_
              refine r_dup (pc2 := 194) dX2_doPut_193 rfl rfl ?_
              refine r_getI (z := ((s.2.2.2.1 : Nat) : Int)) (pc2 := 197) dX2_doPut_194 rfl (Or.inl fX2_58) (hK_29 (by rw [f8.1]; exact hS)) (by rw [f8.2.1 29 14 (by unfold okA; omega)]; exact hQ.2.2) ?_
              refine r_iconst (pc2 := 198) dX2_doPut_197 rfl ?_
              refine r_iadd (c := ((s.2.2.2.1 + 1 : Nat) : Int)) (pc2 := 199) dX2_doPut_198 rfl (by omega) ?_
              refine r_putI (z := ((s.2.2.2.1 + 1 : Nat) : Int)) (pc2 := 202) dX2_doPut_199 rfl fX2_58 (w2_14 _) (hK_29 (by rw [f8.1]; exact hS)) (by decide) ?_
              refine r_iconst (pc2 := 203) dX2_doPut_202 rfl ?_
              refine r_ireti dX2_doPut_203 rfl ?_
              refine ⟨qSet s q (3 - (g1 G i)) (if (3 - (g1 G i)) = 4 ∨ (3 - (g1 G i)) = 9 then 0 else (g2 G i)) (if (3 - (g1 G i)) = 4 ∨ (3 - (g1 G i)) = 9 then (g2 G i) else 0), ix2, ?_, rfl, hQ.put b8 f8, f8.c.I (by unfold okC; omega), ?_, ?_⟩
              · exact qPut_y hq hin (by omega) (fun c => by omega) (by unfold kMir; (repeat' split) <;> omega) (by (repeat' split) <;> omega) (by (repeat' split) <;> omega)
              · rw [pI_nk (by decide), f8.2.1 29 12 (by unfold okA; omega)]; exact hF.1
              · rw [pI_ne (by decide), f8.2.1 30 t (by unfold okA; omega)]
            · refine r_iload5 (pc2 := 164) dX2_doPut_162 rfl ?_
              refine r_iconst (pc2 := 165) dX2_doPut_164 rfl ?_
              refine r_icne (tgt := 175) (pc2 := 168) dX2_doPut_165 rfl (by decide) ⟨by omega, by omega⟩ ⟨by omega, by omega⟩ (fun b_165 => ?_) (fun b_165 => ?_)
              · refine r_iload5 (pc2 := 177) dX2_doPut_175 rfl ?_
                refine r_istore5 (pc2 := 179) dX2_doPut_177 rfl rfl ?_
                refine r_aload0 (pc2 := 180) dX2_doPut_179 rfl ?_
                refine r_getR (pc2 := 183) dX2_doPut_180 rfl fX2_47 (hK_29 hS) (hR_29_1 hS) ?_
                refine r_iload4 (pc2 := 185) dX2_doPut_183 rfl ?_
                refine r_iload5 (pc2 := 187) dX2_doPut_185 rfl ?_
                refine r_iload6 (pc2 := 189) dX2_doPut_187 rfl ?_
                refine r_cv3 (pc2 := 192) dX2_doPut_189 rfl vX2_142 (hK_19 hS) (by decide) (c_X0_add (d := d) (q := q) (K := (g1 G i)) (v := (g2 G i)) (D := s.1) (sh := s.2.1) (ix := ix) hS hQ.1 hq1 (by omega) ⟨by omega, by omega⟩ ⟨by omega, by omega⟩ (fun c => by omega) (fun c => by unfold mvg at c; omega)) ?_
                rintro _ M8 ⟨rfl, ⟨ix2, b8⟩, f8⟩
                show Go (Ct (d + 2)) _ yX2_doPut cX2_doPut (some .int) 0 0 192 [some (.ref 29), some (.int (iI ((i : Nat) : Int))), some (.int (iI X)), some (.int (iI Y)), some (.int (iI ((q : Nat) : Int))), some (.int (iI (g1 G i))), some (.int (iI (g2 G i)))] [] M8
                refine r_aload0 (pc2 := 193) dX2_doPut_192 rfl ?_
                refine r_dup (pc2 := 194) dX2_doPut_193 rfl rfl ?_
                refine r_getI (z := ((s.2.2.2.1 : Nat) : Int)) (pc2 := 197) dX2_doPut_194 rfl (Or.inl fX2_58) (hK_29 (by rw [f8.1]; exact hS)) (by rw [f8.2.1 29 14 (by unfold okA; omega)]; exact hQ.2.2) ?_
                refine r_iconst (pc2 := 198) dX2_doPut_197 rfl ?_
                refine r_iadd (c := ((s.2.2.2.1 + 1 : Nat) : Int)) (pc2 := 199) dX2_doPut_198 rfl (by omega) ?_
                refine r_putI (z := ((s.2.2.2.1 + 1 : Nat) : Int)) (pc2 := 202) dX2_doPut_199 rfl fX2_58 (w2_14 _) (hK_29 (by rw [f8.1]; exact hS)) (by decide) ?_
                refine r_iconst (pc2 := 203) dX2_doPut_202 rfl ?_
                refine r_ireti dX2_doPut_203 rfl ?_
                refine ⟨qSet s q (g1 G i) (if (g1 G i) = 4 ∨ (g1 G i) = 9 then 0 else (g2 G i)) (if (g1 G i) = 4 ∨ (g1 G i) = 9 then (g2 G i) else 0), ix2, ?_, rfl, hQ.put b8 f8, f8.c.I (by unfold okC; omega), ?_, ?_⟩
                · exact qPut_y hq hin (by omega) (fun c => by omega) (by unfold kMir; (repeat' split) <;> omega) (by (repeat' split) <;> omega) (by (repeat' split) <;> omega)
                · rw [pI_nk (by decide), f8.2.1 29 12 (by unfold okA; omega)]; exact hF.1
                · rw [pI_ne (by decide), f8.2.1 30 t (by unfold okA; omega)]
              · refine r_iconst (pc2 := 169) dX2_doPut_168 rfl ?_
                refine r_iload5 (pc2 := 171) dX2_doPut_169 rfl ?_
                refine r_isub (c := (3 - (g1 G i))) (pc2 := 172) dX2_doPut_171 rfl rfl ?_
                refine r_goto (tgt := 177) dX2_doPut_172 (by decide) ?_
                refine r_istore5 (pc2 := 179) dX2_doPut_177 rfl rfl ?_
                refine r_aload0 (pc2 := 180) dX2_doPut_179 rfl ?_
                refine r_getR (pc2 := 183) dX2_doPut_180 rfl fX2_47 (hK_29 hS) (hR_29_1 hS) ?_
                refine r_iload4 (pc2 := 185) dX2_doPut_183 rfl ?_
                refine r_iload5 (pc2 := 187) dX2_doPut_185 rfl ?_
                refine r_iload6 (pc2 := 189) dX2_doPut_187 rfl ?_
                refine r_cv3 (pc2 := 192) dX2_doPut_189 rfl vX2_142 (hK_19 hS) (by decide) (c_X0_add (d := d) (q := q) (K := (3 - (g1 G i))) (v := (g2 G i)) (D := s.1) (sh := s.2.1) (ix := ix) hS hQ.1 hq1 (by omega) ⟨by omega, by omega⟩ ⟨by omega, by omega⟩ (fun c => by omega) (fun c => by unfold mvg at c; omega)) ?_
                rintro _ M8 ⟨rfl, ⟨ix2, b8⟩, f8⟩
                show Go (Ct (d + 2)) _ yX2_doPut cX2_doPut (some .int) 0 0 192 [some (.ref 29), some (.int (iI ((i : Nat) : Int))), some (.int (iI X)), some (.int (iI Y)), some (.int (iI ((q : Nat) : Int))), some (.int (iI (3 - (g1 G i)))), some (.int (iI (g2 G i)))] [] M8
                refine r_aload0 (pc2 := 193) dX2_doPut_192 rfl ?_
                refine r_dup (pc2 := 194) dX2_doPut_193 rfl rfl ?_
                refine r_getI (z := ((s.2.2.2.1 : Nat) : Int)) (pc2 := 197) dX2_doPut_194 rfl (Or.inl fX2_58) (hK_29 (by rw [f8.1]; exact hS)) (by rw [f8.2.1 29 14 (by unfold okA; omega)]; exact hQ.2.2) ?_
                refine r_iconst (pc2 := 198) dX2_doPut_197 rfl ?_
                refine r_iadd (c := ((s.2.2.2.1 + 1 : Nat) : Int)) (pc2 := 199) dX2_doPut_198 rfl (by omega) ?_
                refine r_putI (z := ((s.2.2.2.1 + 1 : Nat) : Int)) (pc2 := 202) dX2_doPut_199 rfl fX2_58 (w2_14 _) (hK_29 (by rw [f8.1]; exact hS)) (by decide) ?_
                refine r_iconst (pc2 := 203) dX2_doPut_202 rfl ?_
                refine r_ireti dX2_doPut_203 rfl ?_
                refine ⟨qSet s q (3 - (g1 G i)) (if (3 - (g1 G i)) = 4 ∨ (3 - (g1 G i)) = 9 then 0 else (g2 G i)) (if (3 - (g1 G i)) = 4 ∨ (3 - (g1 G i)) = 9 then (g2 G i) else 0), ix2, ?_, rfl, hQ.put b8 f8, f8.c.I (by unfold okC; omega), ?_, ?_⟩
                · exact qPut_y hq hin (by omega) (fun c => by omega) (by unfold kMir; (repeat' split) <;> omega) (by (repeat' split) <;> omega) (by (repeat' split) <;> omega)
                · rw [pI_nk (by decide), f8.2.1 29 12 (by unfold okA; omega)]; exact hF.1
                · rw [pI_ne (by decide), f8.2.1 30 t (by unfold okA; omega)]
          · refine r_iconst (pc2 := 146) dX2_doPut_145 rfl ?_
            refine r_iload6 (pc2 := 148) dX2_doPut_146 rfl ?_
            refine r_isub (c := (1 - (g2 G i))) (pc2 := 149) dX2_doPut_148 rfl rfl ?_
            refine r_goto (tgt := 154) dX2_doPut_149 (by decide) ?_
            refine r_istore6 (pc2 := 156) dX2_doPut_154 rfl rfl ?_
            refine r_iload5 (pc2 := 158) dX2_doPut_156 rfl ?_
            refine r_iconst (pc2 := 159) dX2_doPut_158 rfl ?_
            refine r_iceq (tgt := 168) (pc2 := 162) dX2_doPut_159 rfl (by decide) ⟨by omega, by omega⟩ ⟨by omega, by omega⟩ (fun b_159 => ?_) (fun b_159 => ?_)
            · refine r_iconst (pc2 := 169) dX2_doPut_168 rfl ?_
              refine r_iload5 (pc2 := 171) dX2_doPut_169 rfl ?_
              refine r_isub (c := (3 - (g1 G i))) (pc2 := 172) dX2_doPut_171 rfl rfl ?_
              refine r_goto (tgt := 177) dX2_doPut_172 (by decide) ?_
              refine r_istore5 (pc2 := 179) dX2_doPut_177 rfl rfl ?_
              refine r_aload0 (pc2 := 180) dX2_doPut_179 rfl ?_
              refine r_getR (pc2 := 183) dX2_doPut_180 rfl fX2_47 (hK_29 hS) (hR_29_1 hS) ?_
              refine r_iload4 (pc2 := 185) dX2_doPut_183 rfl ?_
              refine r_iload5 (pc2 := 187) dX2_doPut_185 rfl ?_
              refine r_iload6 (pc2 := 189) dX2_doPut_187 rfl ?_
              refine r_cv3 (pc2 := 192) dX2_doPut_189 rfl vX2_142 (hK_19 hS) (by decide) (c_X0_add (d := d) (q := q) (K := (3 - (g1 G i))) (v := (1 - (g2 G i))) (D := s.1) (sh := s.2.1) (ix := ix) hS hQ.1 hq1 (by omega) ⟨by omega, by omega⟩ ⟨by omega, by omega⟩ (fun c => by omega) (fun c => by unfold mvg at c; omega)) ?_
              rintro _ M8 ⟨rfl, ⟨ix2, b8⟩, f8⟩
              show Go (Ct (d + 2)) _ yX2_doPut cX2_doPut (some .int) 0 0 192 [some (.ref 29), some (.int (iI ((i : Nat) : Int))), some (.int (iI X)), some (.int (iI Y)), some (.int (iI ((q : Nat) : Int))), some (.int (iI (3 - (g1 G i)))), some (.int (iI (1 - (g2 G i))))] [] M8
              refine r_aload0 (pc2 := 193) dX2_doPut_192 rfl ?_
              refine r_dup (pc2 := 194) dX2_doPut_193 rfl rfl ?_
              refine r_getI (z := ((s.2.2.2.1 : Nat) : Int)) (pc2 := 197) dX2_doPut_194 rfl (Or.inl fX2_58) (hK_29 (by rw [f8.1]; exact hS)) (by rw [f8.2.1 29 14 (by unfold okA; omega)]; exact hQ.2.2) ?_
              refine r_iconst (pc2 := 198) dX2_doPut_197 rfl ?_
              refine r_iadd (c := ((s.2.2.2.1 + 1 : Nat) : Int)) (pc2 := 199) dX2_doPut_198 rfl (by omega) ?_
              refine r_putI (z := ((s.2.2.2.1 + 1 : Nat) : Int)) (pc2 := 202) dX2_doPut_199 rfl fX2_58 (w2_14 _) (hK_29 (by rw [f8.1]; exact hS)) (by decide) ?_
              refine r_iconst (pc2 := 203) dX2_doPut_202 rfl ?_
              refine r_ireti dX2_doPut_203 rfl ?_
              refine ⟨qSet s q (3 - (g1 G i)) (if (3 - (g1 G i)) = 4 ∨ (3 - (g1 G i)) = 9 then 0 else (1 - (g2 G i))) (if (3 - (g1 G i)) = 4 ∨ (3 - (g1 G i)) = 9 then (1 - (g2 G i)) else 0), ix2, ?_, rfl, hQ.put b8 f8, f8.c.I (by unfold okC; omega), ?_, ?_⟩
              · exact qPut_y hq hin (by omega) (fun c => by omega) (by unfold kMir; (repeat' split) <;> omega) (by (repeat' split) <;> omega) (by (repeat' split) <;> omega)
              · rw [pI_nk (by decide), f8.2.1 29 12 (by unfold okA; omega)]; exact hF.1
              · rw [pI_ne (by decide), f8.2.1 30 t (by unfold okA; omega)]
            · refine r_iload5 (pc2 := 164) dX2_doPut_162 rfl ?_
              refine r_iconst (pc2 := 165) dX2_doPut_164 rfl ?_
              refine r_icne (tgt := 175) (pc2 := 168) dX2_doPut_165 rfl (by decide) ⟨by omega, by omega⟩ ⟨by omega, by omega⟩ (fun b_165 => ?_) (fun b_165 => ?_)
              · refine r_iload5 (pc2 := 177) dX2_doPut_175 rfl ?_
                refine r_istore5 (pc2 := 179) dX2_doPut_177 rfl rfl ?_
                refine r_aload0 (pc2 := 180) dX2_doPut_179 rfl ?_
                refine r_getR (pc2 := 183) dX2_doPut_180 rfl fX2_47 (hK_29 hS) (hR_29_1 hS) ?_
                refine r_iload4 (pc2 := 185) dX2_doPut_183 rfl ?_
                refine r_iload5 (pc2 := 187) dX2_doPut_185 rfl ?_
                refine r_iload6 (pc2 := 189) dX2_doPut_187 rfl ?_
                refine r_cv3 (pc2 := 192) dX2_doPut_189 rfl vX2_142 (hK_19 hS) (by decide) (c_X0_add (d := d) (q := q) (K := (g1 G i)) (v := (1 - (g2 G i))) (D := s.1) (sh := s.2.1) (ix := ix) hS hQ.1 hq1 (by omega) ⟨by omega, by omega⟩ ⟨by omega, by omega⟩ (fun c => by omega) (fun c => by unfold mvg at c; omega)) ?_
                rintro _ M8 ⟨rfl, ⟨ix2, b8⟩, f8⟩
                show Go (Ct (d + 2)) _ yX2_doPut cX2_doPut (some .int) 0 0 192 [some (.ref 29), some (.int (iI ((i : Nat) : Int))), some (.int (iI X)), some (.int (iI Y)), some (.int (iI ((q : Nat) : Int))), some (.int (iI (g1 G i))), some (.int (iI (1 - (g2 G i))))] [] M8
                refine r_aload0 (pc2 := 193) dX2_doPut_192 rfl ?_
                refine r_dup (pc2 := 194) dX2_doPut_193 rfl rfl ?_
                refine r_getI (z := ((s.2.2.2.1 : Nat) : Int)) (pc2 := 197) dX2_doPut_194 rfl (Or.inl fX2_58) (hK_29 (by rw [f8.1]; exact hS)) (by rw [f8.2.1 29 14 (by unfold okA; omega)]; exact hQ.2.2) ?_
                refine r_iconst (pc2 := 198) dX2_doPut_197 rfl ?_
                refine r_iadd (c := ((s.2.2.2.1 + 1 : Nat) : Int)) (pc2 := 199) dX2_doPut_198 rfl (by omega) ?_
                refine r_putI (z := ((s.2.2.2.1 + 1 : Nat) : Int)) (pc2 := 202) dX2_doPut_199 rfl fX2_58 (w2_14 _) (hK_29 (by rw [f8.1]; exact hS)) (by decide) ?_
                refine r_iconst (pc2 := 203) dX2_doPut_202 rfl ?_
                refine r_ireti dX2_doPut_203 rfl ?_
                refine ⟨qSet s q (g1 G i) (if (g1 G i) = 4 ∨ (g1 G i) = 9 then 0 else (1 - (g2 G i))) (if (g1 G i) = 4 ∨ (g1 G i) = 9 then (1 - (g2 G i)) else 0), ix2, ?_, rfl, hQ.put b8 f8, f8.c.I (by unfold okC; omega), ?_, ?_⟩
                · exact qPut_y hq hin (by omega) (fun c => by omega) (by unfold kMir; (repeat' split) <;> omega) (by (repeat' split) <;> omega) (by (repeat' split) <;> omega)
                · rw [pI_nk (by decide), f8.2.1 29 12 (by unfold okA; omega)]; exact hF.1
                · rw [pI_ne (by decide), f8.2.1 30 t (by unfold okA; omega)]
              · refine r_iconst (pc2 := 169) dX2_doPut_168 rfl ?_
                refine r_iload5 (pc2 := 171) dX2_doPut_169 rfl ?_
                refine r_isub (c := (3 - (g1 G i))) (pc2 := 172) dX2_doPut_171 rfl rfl ?_
                refine r_goto (tgt := 177) dX2_doPut_172 (by decide) ?_
                refine r_istore5 (pc2 := 179) dX2_doPut_177 rfl rfl ?_
                refine r_aload0 (pc2 := 180) dX2_doPut_179 rfl ?_
                refine r_getR (pc2 := 183) dX2_doPut_180 rfl fX2_47 (hK_29 hS) (hR_29_1 hS) ?_
                refine r_iload4 (pc2 := 185) dX2_doPut_183 rfl ?_
                refine r_iload5 (pc2 := 187) dX2_doPut_185 rfl ?_
                refine r_iload6 (pc2 := 189) dX2_doPut_187 rfl ?_
                refine r_cv3 (pc2 := 192) dX2_doPut_189 rfl vX2_142 (hK_19 hS) (by decide) (c_X0_add (d := d) (q := q) (K := (3 - (g1 G i))) (v := (1 - (g2 G i))) (D := s.1) (sh := s.2.1) (ix := ix) hS hQ.1 hq1 (by omega) ⟨by omega, by omega⟩ ⟨by omega, by omega⟩ (fun c => by omega) (fun c => by unfold mvg at c; omega)) ?_
                rintro _ M8 ⟨rfl, ⟨ix2, b8⟩, f8⟩
                show Go (Ct (d + 2)) _ yX2_doPut cX2_doPut (some .int) 0 0 192 [some (.ref 29), some (.int (iI ((i : Nat) : Int))), some (.int (iI X)), some (.int (iI Y)), some (.int (iI ((q : Nat) : Int))), some (.int (iI (3 - (g1 G i)))), some (.int (iI (1 - (g2 G i))))] [] M8
                refine r_aload0 (pc2 := 193) dX2_doPut_192 rfl ?_
                refine r_dup (pc2 := 194) dX2_doPut_193 rfl rfl ?_
                refine r_getI (z := ((s.2.2.2.1 : Nat) : Int)) (pc2 := 197) dX2_doPut_194 rfl (Or.inl fX2_58) (hK_29 (by rw [f8.1]; exact hS)) (by rw [f8.2.1 29 14 (by unfold okA; omega)]; exact hQ.2.2) ?_
                refine r_iconst (pc2 := 198) dX2_doPut_197 rfl ?_
                refine r_iadd (c := ((s.2.2.2.1 + 1 : Nat) : Int)) (pc2 := 199) dX2_doPut_198 rfl (by omega) ?_
                refine r_putI (z := ((s.2.2.2.1 + 1 : Nat) : Int)) (pc2 := 202) dX2_doPut_199 rfl fX2_58 (w2_14 _) (hK_29 (by rw [f8.1]; exact hS)) (by decide) ?_
                refine r_iconst (pc2 := 203) dX2_doPut_202 rfl ?_
                refine r_ireti dX2_doPut_203 rfl ?_
                refine ⟨qSet s q (3 - (g1 G i)) (if (3 - (g1 G i)) = 4 ∨ (3 - (g1 G i)) = 9 then 0 else (1 - (g2 G i))) (if (3 - (g1 G i)) = 4 ∨ (3 - (g1 G i)) = 9 then (1 - (g2 G i)) else 0), ix2, ?_, rfl, hQ.put b8 f8, f8.c.I (by unfold okC; omega), ?_, ?_⟩
                · exact qPut_y hq hin (by omega) (fun c => by omega) (by unfold kMir; (repeat' split) <;> omega) (by (repeat' split) <;> omega) (by (repeat' split) <;> omega)
                · rw [pI_nk (by decide), f8.2.1 29 12 (by unfold okA; omega)]; exact hF.1
                · rw [pI_ne (by decide), f8.2.1 30 t (by unfold okA; omega)]
    · refine r_iconst (pc2 := 75) dX2_doPut_74 rfl ?_
      refine r_ireti dX2_doPut_75 rfl ?_
      refine ⟨qRe s 2, ix, by rw [qPut_n2 hq hin b_71], rfl, hQ.re, frC.rf, hF.1, rfl⟩
  · rintro _ M9 ⟨rfl, h9⟩
    rw [h9, if_neg hin]
    show Go (Ct (d + 2)) _ yX2_doPut cX2_doPut (some .int) 0 0 49 [some (.ref 29), some (.int (iI ((i : Nat) : Int))), some (.int (iI X)), some (.int (iI Y)), none, none, none] [.int (iI 0)] M
    refine r_ifne (tgt := 54) (pc2 := 52) dX2_doPut_49 rfl (by decide) ⟨by omega, by omega⟩ (fun h9 => absurd h9 (by decide)) (fun _ => ?_)
    refine r_iconst (pc2 := 53) dX2_doPut_52 rfl ?_
    refine r_ireti dX2_doPut_53 rfl ?_
    refine ⟨qRe s 1, ix, by rw [qPut_n1 hin], rfl, hQ.re, frC.rf, hF.1, rfl⟩
