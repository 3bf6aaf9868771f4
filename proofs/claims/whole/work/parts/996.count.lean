/-! count, both sides -/
noncomputable def cnV (X : bS) (n k L w si pu : Nat) (z : Int) : Int := if z = 0 then ((pcc X.1.1.1 156 : Nat) : Int) else if z = 1 then ((mvc X.1.1.1 156 : Nat) : Int) else if z = 2 then ((gtN X.1 : Nat) : Int) else if z = 3 then (n : Int) else if z = 4 then (k : Int) else if z = 5 then (L : Int) else if z = 6 then (w : Int) else if z = 7 then (si : Int) else if z = 8 then ((lvc X.1.2.2.2.1 13 : Nat) : Int) else if z = 9 then (pu : Int) else -1
set_option maxHeartbeats 4000000 in
theorem c_X11_count {d : Nat} {M : pM} {z : Int} {X : bS} {ix : Nat → Nat} {n k L w si pu : Nat} (hS : sOk M.1) (hzr : inR z) (hC : CF M 19 X ix) (hD : bOk X.1) (hk : bK X.1 X.2) (h1 : M.2.1 254 1 = (n : Int)) (h2 : M.2.1 40 2 = (k : Int)) (h3 : M.2.1 3 5 = (L : Int)) (h4 : M.2.1 266 3 = (w : Int)) (h5 : M.2.1 270 6 = (si : Int)) (h6 : M.2.1 29 15 = (pu : Int)) : Ct (d + 3) 0 0 yX11_count [.ref 2, .int (iI z)] M (fun v M2 => v = some (.int (iI (cnV X n k L w si pu z))) ∧ M2 = M) := by
  refine ct_in (d := (d + 2)) kX11_count rfl (by decide) (Nat.le_of_ble_eq_true rfl) (by decide) ?_
  show Go (Ct (d + 2)) _ yX11_count cX11_count (some .int) 0 0 0 [some (.ref 2), some (.int (iI z))] [] M
  unfold inR at hzr
  refine r_iload1 (pc2 := 1) dX11_count_0 rfl ?_
  by_cases sw1_0 : z = 0
  · refine r_tabIn (tgt := 56) dX11_count_1 ⟨by omega, by omega⟩ 0 (by omega) (by omega) rfl (by decide) ?_
    refine r_aload0 (pc2 := 57) dX11_count_56 rfl ?_
    refine r_getR (pc2 := 60) dX11_count_57 rfl fX11_28 (hK_2 hS) (hR_2_2 hS) ?_
    refine r_getI (z := ((pcc X.1.1.1 156 : Nat) : Int)) (pc2 := 63) dX11_count_60 rfl (Or.inl fX11_246) (hK_19 hS) hC.2.2.2.1 ?_
    refine r_ireti dX11_count_63 rfl ?_
    exact ⟨by unfold cnV; rw [if_pos (by omega)], rfl⟩
  by_cases sw1_1 : z = 1
  · refine r_tabIn (tgt := 64) dX11_count_1 ⟨by omega, by omega⟩ 1 (by omega) (by omega) rfl (by decide) ?_
    refine r_aload0 (pc2 := 65) dX11_count_64 rfl ?_
    refine r_getR (pc2 := 68) dX11_count_65 rfl fX11_28 (hK_2 hS) (hR_2_2 hS) ?_
    refine r_getI (z := ((mvc X.1.1.1 156 : Nat) : Int)) (pc2 := 71) dX11_count_68 rfl (Or.inl fX11_249) (hK_19 hS) hC.2.2.2.2 ?_
    refine r_ireti dX11_count_71 rfl ?_
    exact ⟨by unfold cnV; rw [if_neg (by omega), if_pos (by omega)], rfl⟩
  by_cases sw1_2 : z = 2
  · refine r_tabIn (tgt := 72) dX11_count_1 ⟨by omega, by omega⟩ 2 (by omega) (by omega) rfl (by decide) ?_
    refine r_aload0 (pc2 := 73) dX11_count_72 rfl ?_
    refine r_getR (pc2 := 76) dX11_count_73 rfl fX11_28 (hK_2 hS) (hR_2_2 hS) ?_
    refine r_cv0 (pc2 := 79) dX11_count_76 rfl vX11_252 (hK_19 hS) (by decide) (c_X0_gateTrains (d := d) hS hC.1 (fun p hp => bK_pc hk p hp)) ?_
    rintro _ M9 ⟨rfl, h9⟩
    rw [h9]
    show Go (Ct (d + 2)) _ yX11_count cX11_count (some .int) 0 0 79 [some (.ref 2), some (.int (iI z))] [.int (iI ((gtN X.1 : Nat) : Int))] M
    refine r_ireti dX11_count_79 rfl ?_
    exact ⟨by unfold cnV; rw [if_neg (by omega), if_neg (by omega), if_pos (by omega)], rfl⟩
  by_cases sw1_3 : z = 3
  · refine r_tabIn (tgt := 80) dX11_count_1 ⟨by omega, by omega⟩ 3 (by omega) (by omega) rfl (by decide) ?_
    refine r_aload0 (pc2 := 81) dX11_count_80 rfl ?_
    refine r_getR (pc2 := 84) dX11_count_81 rfl fX11_59 (hK_2 hS) (hR_2_7 hS) ?_
    refine r_getI (z := ((n : Nat) : Int)) (pc2 := 87) dX11_count_84 rfl (Or.inl fX11_255) (hK_254 hS) h1 ?_
    refine r_ireti dX11_count_87 rfl ?_
    exact ⟨by unfold cnV; rw [if_neg (by omega), if_neg (by omega), if_neg (by omega), if_pos (by omega)], rfl⟩
  by_cases sw1_4 : z = 4
  · refine r_tabIn (tgt := 88) dX11_count_1 ⟨by omega, by omega⟩ 4 (by omega) (by omega) rfl (by decide) ?_
    refine r_aload0 (pc2 := 89) dX11_count_88 rfl ?_
    refine r_getR (pc2 := 92) dX11_count_89 rfl fX11_44 (hK_2 hS) (hR_2_4 hS) ?_
    refine r_getI (z := ((k : Nat) : Int)) (pc2 := 95) dX11_count_92 rfl (Or.inl fX11_127) (hK_40 hS) h2 ?_
    refine r_ireti dX11_count_95 rfl ?_
    exact ⟨by unfold cnV; rw [if_neg (by omega), if_neg (by omega), if_neg (by omega), if_neg (by omega), if_pos (by omega)], rfl⟩
  by_cases sw1_5 : z = 5
  · refine r_tabIn (tgt := 96) dX11_count_1 ⟨by omega, by omega⟩ 5 (by omega) (by omega) rfl (by decide) ?_
    refine r_aload0 (pc2 := 97) dX11_count_96 rfl ?_
    refine r_getR (pc2 := 100) dX11_count_97 rfl fX11_10 (hK_2 hS) (hR_2_0 hS) ?_
    refine r_getI (z := ((L : Nat) : Int)) (pc2 := 103) dX11_count_100 rfl (Or.inl fX11_102) (hK_3 hS) h3 ?_
    refine r_ireti dX11_count_103 rfl ?_
    exact ⟨by unfold cnV; rw [if_neg (by omega), if_neg (by omega), if_neg (by omega), if_neg (by omega), if_neg (by omega), if_pos (by omega)], rfl⟩
  by_cases sw1_6 : z = 6
  · refine r_tabIn (tgt := 104) dX11_count_1 ⟨by omega, by omega⟩ 6 (by omega) (by omega) rfl (by decide) ?_
    refine r_aload0 (pc2 := 105) dX11_count_104 rfl ?_
    refine r_getR (pc2 := 108) dX11_count_105 rfl fX11_87 (hK_2 hS) (hR_2_11 hS) ?_
    refine r_getI (z := ((w : Nat) : Int)) (pc2 := 111) dX11_count_108 rfl (Or.inl fX11_258) (hK_266 hS) h4 ?_
    refine r_ireti dX11_count_111 rfl ?_
    exact ⟨by unfold cnV; rw [if_neg (by omega), if_neg (by omega), if_neg (by omega), if_neg (by omega), if_neg (by omega), if_neg (by omega), if_pos (by omega)], rfl⟩
  by_cases sw1_7 : z = 7
  · refine r_tabIn (tgt := 112) dX11_count_1 ⟨by omega, by omega⟩ 7 (by omega) (by omega) rfl (by decide) ?_
    refine r_aload0 (pc2 := 113) dX11_count_112 rfl ?_
    refine r_getR (pc2 := 116) dX11_count_113 rfl fX11_94 (hK_2 hS) (hR_2_12 hS) ?_
    refine r_getI (z := ((si : Nat) : Int)) (pc2 := 119) dX11_count_116 rfl (Or.inl fX11_261) (hK_270 hS) h5 ?_
    refine r_ireti dX11_count_119 rfl ?_
    exact ⟨by unfold cnV; rw [if_neg (by omega), if_neg (by omega), if_neg (by omega), if_neg (by omega), if_neg (by omega), if_neg (by omega), if_neg (by omega), if_pos (by omega)], rfl⟩
  by_cases sw1_8 : z = 8
  · refine r_tabIn (tgt := 120) dX11_count_1 ⟨by omega, by omega⟩ 8 (by omega) (by omega) rfl (by decide) ?_
    refine r_aload0 (pc2 := 121) dX11_count_120 rfl ?_
    refine r_getR (pc2 := 124) dX11_count_121 rfl fX11_28 (hK_2 hS) (hR_2_2 hS) ?_
    refine r_cv0 (pc2 := 127) dX11_count_124 rfl vX11_264 (hK_19 hS) (by decide) (c_X0_leverCount (d := d + 1) (f := X.1.2.2.2.1) hS (fun q hq => ⟨hC.1.2.2 q hq, hD.2.1 q hq⟩)) ?_
    rintro _ M9 ⟨rfl, h9⟩
    rw [h9]
    show Go (Ct (d + 2)) _ yX11_count cX11_count (some .int) 0 0 127 [some (.ref 2), some (.int (iI z))] [.int (iI ((lvc X.1.2.2.2.1 13 : Nat) : Int))] M
    refine r_ireti dX11_count_127 rfl ?_
    exact ⟨by unfold cnV; rw [if_neg (by omega), if_neg (by omega), if_neg (by omega), if_neg (by omega), if_neg (by omega), if_neg (by omega), if_neg (by omega), if_neg (by omega), if_pos (by omega)], rfl⟩
  by_cases sw1_9 : z = 9
  · refine r_tabIn (tgt := 128) dX11_count_1 ⟨by omega, by omega⟩ 9 (by omega) (by omega) rfl (by decide) ?_
    refine r_aload0 (pc2 := 129) dX11_count_128 rfl ?_
    refine r_getR (pc2 := 132) dX11_count_129 rfl fX11_37 (hK_2 hS) (hR_2_3 hS) ?_
    refine r_getI (z := ((pu : Nat) : Int)) (pc2 := 135) dX11_count_132 rfl (Or.inl fX11_267) (hK_29 hS) h6 ?_
    refine r_ireti dX11_count_135 rfl ?_
    exact ⟨by unfold cnV; rw [if_neg (by omega), if_neg (by omega), if_neg (by omega), if_neg (by omega), if_neg (by omega), if_neg (by omega), if_neg (by omega), if_neg (by omega), if_neg (by omega), if_pos (by omega)], rfl⟩
  refine r_tabOut (tgt := 136) dX11_count_1 ⟨by omega, by omega⟩ (by omega) (by decide) ?_
  refine r_iconst (pc2 := 137) dX11_count_136 rfl ?_
  refine r_ireti dX11_count_137 rfl ?_
  exact ⟨by unfold cnV; rw [if_neg (by omega), if_neg (by omega), if_neg (by omega), if_neg (by omega), if_neg (by omega), if_neg (by omega), if_neg (by omega), if_neg (by omega), if_neg (by omega), if_neg (by omega)], rfl⟩
set_option maxHeartbeats 4000000 in
theorem c_X12_count {d : Nat} {M : pM} {z : Int} {B : Nat → bS} {n k L w si pu : Nat} (hS : sOk M.1) (hzr : inR z) (hB : MB M B) (hD : bOk (B 0).1) (hk : bK (B 0).1 (B 0).2) (h1 : M.2.1 317 31 = (n : Int)) (h2 : M.2.1 317 28 = (k : Int)) (h3 : M.2.1 317 2 = (L : Int)) (h4 : M.2.1 317 45 = (w : Int)) (h5 : M.2.1 317 48 = (si : Int)) (h6 : M.2.1 317 27 = (pu : Int)) : Ct (d + 4) 0 0 yX12_count [.ref 317, .int (iI z)] M (fun v M2 => v = some (.int (iI (cnV (B 0) n k L w si pu z))) ∧ fr [317, 335, 336] M M2 ∧ (∀ j, j ≠ 0 → M2.2.1 317 j = M.2.1 317 j) ∧ M2.2.1 317 0 = 0) := by
  refine ct_in (d := (d + 3)) kX12_count rfl (by decide) (Nat.le_of_ble_eq_true rfl) (by decide) ?_
  show Go (Ct (d + 3)) _ yX12_count cX12_count (some .int) 0 0 0 [some (.ref 317), some (.int (iI z))] [] M
  unfold inR at hzr
  refine r_aload0 (pc2 := 1) dX12_count_0 rfl ?_
  refine r_iconst (pc2 := 2) dX12_count_1 rfl ?_
  refine r_putI (z := 0) (pc2 := 5) dX12_count_2 rfl fX12_1 (w12_0 _) (hK_317 hS) (by decide) ?_
  refine r_iload1 (pc2 := 6) dX12_count_5 rfl ?_
  by_cases sw6_0 : z = 0
  · refine r_tabIn (tgt := 60) dX12_count_6 ⟨by omega, by omega⟩ 0 (by omega) (by omega) rfl (by decide) ?_
    refine r_aload0 (pc2 := 61) dX12_count_60 rfl ?_
    refine r_cv0 (pc2 := 64) dX12_count_61 rfl vX12_408 (hK_317 hS) (by decide) (c_X12_pieces (d := d + 2) (f := (B 0).1.1.1) hS (fun q hq => ⟨(by have h8 := (hB 0 (by omega)).1 q hq; rw [show 156 * 0 + q = q by omega] at h8; exact h8.1), bK_pc hk q hq⟩)) ?_
    rintro _ M9 ⟨rfl, h9⟩
    rw [h9]
    show Go (Ct (d + 3)) _ yX12_count cX12_count (some .int) 0 0 64 [some (.ref 317), some (.int (iI z))] [.int (iI ((pcc (B 0).1.1.1 156 : Nat) : Int))] (pI M 317 0 0)
    refine r_ireti dX12_count_64 rfl ?_
    exact ⟨by unfold cnV; rw [if_pos (by omega)], fr.rf.I (by decide), fun j j0 => pI_nk j0, pI_at⟩
  by_cases sw6_1 : z = 1
  · refine r_tabIn (tgt := 65) dX12_count_6 ⟨by omega, by omega⟩ 1 (by omega) (by omega) rfl (by decide) ?_
    refine r_aload0 (pc2 := 66) dX12_count_65 rfl ?_
    refine r_iconst (pc2 := 67) dX12_count_66 rfl ?_
    refine r_cv1 (pc2 := 70) dX12_count_67 rfl vX12_288 (hK_317 hS) (by decide) (c_X12_movingOn (d := d + 1) (pc := (B 0).1.1.1) hS (fun q hq => ⟨(by have h8 := (hB 0 (by omega)).1 q hq; rw [show 156 * 0 + q = q by omega] at h8; exact h8.1), bK_pc hk q hq⟩)) ?_
    rintro _ M9 ⟨rfl, h9⟩
    rw [h9]
    show Go (Ct (d + 3)) _ yX12_count cX12_count (some .int) 0 0 70 [some (.ref 317), some (.int (iI z))] [.int (iI ((mvc (B 0).1.1.1 156 : Nat) : Int))] (pI M 317 0 0)
    refine r_ireti dX12_count_70 rfl ?_
    exact ⟨by unfold cnV; rw [if_neg (by omega), if_pos (by omega)], fr.rf.I (by decide), fun j j0 => pI_nk j0, pI_at⟩
  by_cases sw6_2 : z = 2
  · refine r_tabIn (tgt := 71) dX12_count_6 ⟨by omega, by omega⟩ 2 (by omega) (by omega) rfl (by decide) ?_
    refine r_aload0 (pc2 := 72) dX12_count_71 rfl ?_
    refine r_cv0 (pc2 := 75) dX12_count_72 rfl vX12_411 (hK_317 hS) (by decide) (c_X12_gateTrains (d := d) (B := B) hS hB.z hk) ?_
    rintro _ M1 ⟨rfl, f1⟩
    show Go (Ct (d + 3)) _ yX12_count cX12_count (some .int) 0 0 75 [some (.ref 317), some (.int (iI z))] [.int (iI ((gtN (B 0).1 : Nat) : Int))] M1
    refine r_ireti dX12_count_75 rfl ?_
    refine ⟨by unfold cnV; rw [if_neg (by omega), if_neg (by omega), if_pos (by omega)], (fr.rf.I (by decide)).tr (f1.mono (by decide)), fun j j0 => by rw [f1.i (by decide), pI_nk j0], by rw [f1.i (by decide), pI_at]⟩
  by_cases sw6_3 : z = 3
  · refine r_tabIn (tgt := 76) dX12_count_6 ⟨by omega, by omega⟩ 3 (by omega) (by omega) rfl (by decide) ?_
    refine r_aload0 (pc2 := 77) dX12_count_76 rfl ?_
    refine r_getI (z := ((n : Nat) : Int)) (pc2 := 80) dX12_count_77 rfl (Or.inl fX12_319) (hK_317 hS) h1 ?_
    refine r_ireti dX12_count_80 rfl ?_
    exact ⟨by unfold cnV; rw [if_neg (by omega), if_neg (by omega), if_neg (by omega), if_pos (by omega)], fr.rf.I (by decide), fun j j0 => pI_nk j0, pI_at⟩
  by_cases sw6_4 : z = 4
  · refine r_tabIn (tgt := 81) dX12_count_6 ⟨by omega, by omega⟩ 4 (by omega) (by omega) rfl (by decide) ?_
    refine r_aload0 (pc2 := 82) dX12_count_81 rfl ?_
    refine r_getI (z := ((k : Nat) : Int)) (pc2 := 85) dX12_count_82 rfl (Or.inl fX12_279) (hK_317 hS) h2 ?_
    refine r_ireti dX12_count_85 rfl ?_
    exact ⟨by unfold cnV; rw [if_neg (by omega), if_neg (by omega), if_neg (by omega), if_neg (by omega), if_pos (by omega)], fr.rf.I (by decide), fun j j0 => pI_nk j0, pI_at⟩
  by_cases sw6_5 : z = 5
  · refine r_tabIn (tgt := 86) dX12_count_6 ⟨by omega, by omega⟩ 5 (by omega) (by omega) rfl (by decide) ?_
    refine r_aload0 (pc2 := 87) dX12_count_86 rfl ?_
    refine r_getI (z := ((L : Nat) : Int)) (pc2 := 90) dX12_count_87 rfl (Or.inl fX12_11) (hK_317 hS) h3 ?_
    refine r_ireti dX12_count_90 rfl ?_
    exact ⟨by unfold cnV; rw [if_neg (by omega), if_neg (by omega), if_neg (by omega), if_neg (by omega), if_neg (by omega), if_pos (by omega)], fr.rf.I (by decide), fun j j0 => pI_nk j0, pI_at⟩
  by_cases sw6_6 : z = 6
  · refine r_tabIn (tgt := 91) dX12_count_6 ⟨by omega, by omega⟩ 6 (by omega) (by omega) rfl (by decide) ?_
    refine r_aload0 (pc2 := 92) dX12_count_91 rfl ?_
    refine r_getI (z := ((w : Nat) : Int)) (pc2 := 95) dX12_count_92 rfl (Or.inl fX12_376) (hK_317 hS) h4 ?_
    refine r_ireti dX12_count_95 rfl ?_
    exact ⟨by unfold cnV; rw [if_neg (by omega), if_neg (by omega), if_neg (by omega), if_neg (by omega), if_neg (by omega), if_neg (by omega), if_pos (by omega)], fr.rf.I (by decide), fun j j0 => pI_nk j0, pI_at⟩
  by_cases sw6_7 : z = 7
  · refine r_tabIn (tgt := 96) dX12_count_6 ⟨by omega, by omega⟩ 7 (by omega) (by omega) rfl (by decide) ?_
    refine r_aload0 (pc2 := 97) dX12_count_96 rfl ?_
    refine r_getI (z := ((si : Nat) : Int)) (pc2 := 100) dX12_count_97 rfl (Or.inl fX12_394) (hK_317 hS) h5 ?_
    refine r_ireti dX12_count_100 rfl ?_
    exact ⟨by unfold cnV; rw [if_neg (by omega), if_neg (by omega), if_neg (by omega), if_neg (by omega), if_neg (by omega), if_neg (by omega), if_neg (by omega), if_pos (by omega)], fr.rf.I (by decide), fun j j0 => pI_nk j0, pI_at⟩
  by_cases sw6_8 : z = 8
  · refine r_tabIn (tgt := 101) dX12_count_6 ⟨by omega, by omega⟩ 8 (by omega) (by omega) rfl (by decide) ?_
    refine r_aload0 (pc2 := 102) dX12_count_101 rfl ?_
    refine r_cv0 (pc2 := 105) dX12_count_102 rfl vX12_414 (hK_317 hS) (by decide) (c_X12_levers (d := d + 2) (f := (B 0).1.2.2.2.1) hS (fun q hq => ⟨(by have h8 := (hB 0 (by omega)).2.2 q hq; rw [show 13 * 0 + q = q by omega] at h8; exact h8), hD.2.1 q hq⟩)) ?_
    rintro _ M9 ⟨rfl, h9⟩
    rw [h9]
    show Go (Ct (d + 3)) _ yX12_count cX12_count (some .int) 0 0 105 [some (.ref 317), some (.int (iI z))] [.int (iI ((lvc (B 0).1.2.2.2.1 13 : Nat) : Int))] (pI M 317 0 0)
    refine r_ireti dX12_count_105 rfl ?_
    exact ⟨by unfold cnV; rw [if_neg (by omega), if_neg (by omega), if_neg (by omega), if_neg (by omega), if_neg (by omega), if_neg (by omega), if_neg (by omega), if_neg (by omega), if_pos (by omega)], fr.rf.I (by decide), fun j j0 => pI_nk j0, pI_at⟩
  by_cases sw6_9 : z = 9
  · refine r_tabIn (tgt := 106) dX12_count_6 ⟨by omega, by omega⟩ 9 (by omega) (by omega) rfl (by decide) ?_
    refine r_aload0 (pc2 := 107) dX12_count_106 rfl ?_
    refine r_getI (z := ((pu : Nat) : Int)) (pc2 := 110) dX12_count_107 rfl (Or.inl fX12_273) (hK_317 hS) h6 ?_
    refine r_ireti dX12_count_110 rfl ?_
    exact ⟨by unfold cnV; rw [if_neg (by omega), if_neg (by omega), if_neg (by omega), if_neg (by omega), if_neg (by omega), if_neg (by omega), if_neg (by omega), if_neg (by omega), if_neg (by omega), if_pos (by omega)], fr.rf.I (by decide), fun j j0 => pI_nk j0, pI_at⟩
  refine r_tabOut (tgt := 111) dX12_count_6 ⟨by omega, by omega⟩ (by omega) (by decide) ?_
  refine r_iconst (pc2 := 112) dX12_count_111 rfl ?_
  refine r_ireti dX12_count_112 rfl ?_
  exact ⟨by unfold cnV; rw [if_neg (by omega), if_neg (by omega), if_neg (by omega), if_neg (by omega), if_neg (by omega), if_neg (by omega), if_neg (by omega), if_neg (by omega), if_neg (by omega), if_neg (by omega)], fr.rf.I (by decide), fun j j0 => pI_nk j0, pI_at⟩
