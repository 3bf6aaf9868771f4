/-! the class's readClose, readLine, read -/
theorem CG.cls {M : pM} {G : gPr} {u ns : Nat → Nat} (h : CG M G) (hP : PV G u ns) (hD : 0 < gD G) {M2 : pM} (e9 : ∀ k, k ≠ 12 → k ≠ 13 → M2.2.1 9 k = M.2.1 9 k) (e13 : M2.2.1 9 13 = ((gD G - 1 : Nat) : Int)) (e12 : M2.2.1 9 12 = ((gT (gClose G) : Nat) : Int)) (e11 : M2.2.1 11 = va_up (M.2.1 11) (gO G (gD G - 1)) ((gS G : Nat) : Int)) (ei : ∀ a, a ≠ 9 → a ≠ 11 → M2.2.1 a = M.2.1 a) (ej : M2.2.2 = M.2.2) : CG M2 (gClose G) := by
  obtain ⟨h1, h2, h3, h4, h5, h6⟩ := h
  refine ⟨by rw [e9 11 (by decide) (by decide)]; exact h1, e12, e13, fun i hi => ?_, fun k hk => ?_, fun j hj => ?_⟩
  · rw [ei 10 (by decide) (by decide), ei 12 (by decide) (by decide), ei 13 (by decide) (by decide), ei 14 (by decide) (by decide), ei 15 (by decide) (by decide), e11]
    have g := h4 i hi
    refine ⟨g.1, ?_, g.2.2⟩
    show va_up (M.2.1 11) (gO G (gD G - 1)) _ i = va_up (gE G) (gO G (gD G - 1)) _ i
    by_cases e : i = gO G (gD G - 1)
    · subst e; rw [up_at, up_at]
    · rw [up_ne e, up_ne e]; exact g.2.1
  · rw [ei 17 (by decide) (by decide), ej]
    refine h5 k ?_
    by_cases c : gA G (gO G (gD G - 1)) = 13
    · have c1 := (hP.2.2.2.1 (gD G - 1) (by omega)).2.2.2.2.2.2.1 c
      have e1 : gT (gClose G) = gT G + 1 := if_pos c
      have hin : inL G := ⟨hD, by rw [c1] at c; exact c⟩
      rw [e1] at hk
      rcases hk with hk | ⟨hk, -⟩
      · by_cases e : k = gT G
        · exact Or.inr ⟨hin, e⟩
        · exact Or.inl (by omega)
      · have : gD (gClose G) = 0 := by show gD G - 1 = 0; exact c1
        have := hk.1
        omega
    · have e1 : gT (gClose G) = gT G := if_neg c
      rw [e1] at hk
      exact hk.imp id (fun q => ⟨⟨hD, q.1.2⟩, q.2⟩)
  · rw [ei 18 (by decide) (by decide)]
    exact h6 j (by have hj : j < gD G - 1 := hj; omega)
set_option maxHeartbeats 4000000 in
theorem c_X4_readClose {d : Nat} {M : pM} {T : tD} {r : rdT} {G : gPr} {u ns : Nat → Nat} (hS : sOk M.1) (hT : tOk T) (hC : cT M T) (o_r : rOk T r) (hr : r.2 = 0) (hG : CG M G) (hP : PV G u ns) : Ct (d + 3) 0 0 yX4_readClose [.ref 9] (rM M r) (fun v M2 => v = none ∧ cPo M M2 (lClose T r G)) := by
  refine ct_in (d := (d + 2)) kX4_readClose rfl (by decide) (Nat.le_of_ble_eq_true rfl) (by decide) ?_
  show Go (Ct (d + 2)) _ yX4_readClose cX4_readClose none 0 0 0 [some (.ref 9), none] [] (rM M r)
  have hg := hP.ok
  have hT1 := hT.1
  have i_r := o_r.2
  have hg1 := hg.1
  have hg2 := hg.2.1
  have hg3 := hg.2.2.1
  have hop : 0 < gD G → gO G (gD G - 1) < gS G := fun q => hg.2.2.2.1 _ (by omega)
  have har : 0 < gD G → 10 ≤ gA G (gO G (gD G - 1)) ∧ gA G (gO G (gD G - 1)) ≤ 16 := fun q => hg.2.2.2.2.1 _ (hop q)
  refine r_aload0 (pc2 := 1) dX4_readClose_0 rfl ?_
  refine r_getI (z := ((gD G : Nat) : Int)) (pc2 := 4) dX4_readClose_1 rfl (Or.inl fX4_54) (hK_9 hS) hG.2.2.1 ?_
  refine r_ifne (tgt := 12) (pc2 := 7) dX4_readClose_4 rfl (by decide) ⟨by omega, by omega⟩ (fun b_4 => ?_) (fun b_4 => ?_)
  · refine r_aload0 (pc2 := 13) dX4_readClose_12 rfl ?_
    refine r_bipush (pc2 := 15) dX4_readClose_13 rfl (by decide) (by decide) ?_
    refine r_cv1 (pc2 := 18) dX4_readClose_15 rfl vX4_115 (hK_9 hS) (by decide) (c_X4_readKind (d := d) (M := M) (r := r) (k := 41) hS hT hC o_r ⟨by omega, by omega⟩) ?_
    rintro _ M9 ⟨rfl, h9⟩
    obtain ⟨r_255, e_r_255⟩ : ∃ x, x = rK T 41 r := ⟨_, rfl⟩
    rw [← e_r_255] at h9
    rw [h9]
    have o_r_255 : rOk T r_255 := by rw [e_r_255]; exact o_r.K hT
    have i_r_255 := o_r_255.2
    show Go (Ct (d + 2)) _ yX4_readClose cX4_readClose none 0 0 18 [some (.ref 9), none] [] (rM M r_255)
    refine r_aload0 (pc2 := 19) dX4_readClose_18 rfl ?_
    refine r_bipush (pc2 := 21) dX4_readClose_19 rfl (by decide) (by decide) ?_
    refine r_cv1 (pc2 := 24) dX4_readClose_21 rfl vX4_115 (hK_9 hS) (by decide) (c_X4_readKind (d := d) (M := M) (r := r_255) (k := 59) hS hT hC o_r_255 ⟨by omega, by omega⟩) ?_
    rintro _ M9 ⟨rfl, h9⟩
    obtain ⟨r_256, e_r_256⟩ : ∃ x, x = rK T 59 r_255 := ⟨_, rfl⟩
    rw [← e_r_256] at h9
    rw [h9]
    have o_r_256 : rOk T r_256 := by rw [e_r_256]; exact o_r_255.K hT
    have i_r_256 := o_r_256.2
    show Go (Ct (d + 2)) _ yX4_readClose cX4_readClose none 0 0 24 [some (.ref 9), none] [] (rM M r_256)
    refine r_aload0 (pc2 := 25) dX4_readClose_24 rfl ?_
    refine r_getI (z := r_256.2) (pc2 := 28) dX4_readClose_25 rfl (Or.inl fX4_57) (hK_9 hS) rM_f ?_
    refine r_ifne (tgt := 82) (pc2 := 31) dX4_readClose_28 rfl (by decide) ⟨by omega, by omega⟩ (fun b_28 => ?_) (fun b_28 => ?_)
    · refine r_ret dX4_readClose_82 rfl ?_
      have c0 : ¬ gD G = 0 := by omega
      have hl : lClose T r G = (r_256, gClose G) := by
        unfold lClose
        rw [if_neg c0, ← e_r_255, ← e_r_256]
      rw [hl]
      refine ⟨rfl, (fr.rf.I (by decide)).I (by decide), rfl, fun q => absurd q b_28⟩
    · have hD : 0 < gD G := by omega
      have hop2 := hop hD
      have har2 := har hD
      refine r_aload0 (pc2 := 32) dX4_readClose_31 rfl ?_
      refine r_dup (pc2 := 33) dX4_readClose_32 rfl rfl ?_
      refine r_getI (z := ((gD G : Nat) : Int)) (pc2 := 36) dX4_readClose_33 rfl (Or.inl fX4_54) (hK_9 hS) hG.2.2.1 ?_
      refine r_iconst (pc2 := 37) dX4_readClose_36 rfl ?_
      refine r_isub (c := (((gD G - 1) : Nat) : Int)) (pc2 := 38) dX4_readClose_37 rfl (by omega) ?_
      refine r_putI (z := (((gD G - 1) : Nat) : Int)) (pc2 := 41) dX4_readClose_38 rfl fX4_54 (w4_13 _) (hK_9 hS) (by decide) ?_
      refine r_aload0 (pc2 := 42) dX4_readClose_41 rfl ?_
      refine r_getR (pc2 := 45) dX4_readClose_42 rfl fX4_37 (hK_9 hS) (hR_9_9 hS) ?_
      refine r_aload0 (pc2 := 46) dX4_readClose_45 rfl ?_
      refine r_getI (z := (((gD G - 1) : Nat) : Int)) (pc2 := 49) dX4_readClose_46 rfl (Or.inl fX4_54) (hK_9 hS) rfl ?_
      refine r_iald (z := ((gO G (gD G - 1) : Nat) : Int)) (pc2 := 50) dX4_readClose_49 rfl (hK_18 hS) (gD G - 1) rfl (by omega) (hG.2.2.2.2.2 (gD G - 1) (by omega)) ?_
      refine r_istore1 (pc2 := 51) dX4_readClose_50 rfl rfl ?_
      refine r_aload0 (pc2 := 52) dX4_readClose_51 rfl ?_
      refine r_getR (pc2 := 55) dX4_readClose_52 rfl fX4_15 (hK_9 hS) (hR_9_2 hS) ?_
      refine r_iload1 (pc2 := 56) dX4_readClose_55 rfl ?_
      refine r_aload0 (pc2 := 57) dX4_readClose_56 rfl ?_
      refine r_getI (z := ((gS G : Nat) : Int)) (pc2 := 60) dX4_readClose_57 rfl (Or.inl fX4_48) (hK_9 hS) hG.1 ?_
      refine r_iast (z := ((gS G : Nat) : Int)) (pc2 := 61) dX4_readClose_60 rfl (hK_11 hS) (by decide) (gO G (gD G - 1)) rfl (by omega) ?_
      refine r_aload0 (pc2 := 62) dX4_readClose_61 rfl ?_
      refine r_getR (pc2 := 65) dX4_readClose_62 rfl fX4_11 (hK_9 hS) (hR_9_1 hS) ?_
      refine r_iload1 (pc2 := 66) dX4_readClose_65 rfl ?_
      refine r_iald (z := (gA G (gO G (gD G - 1)))) (pc2 := 67) dX4_readClose_66 rfl (hK_10 hS) (gO G (gD G - 1)) rfl (by omega) ((hG.2.2.2.1 (gO G (gD G - 1)) (hg.2.2.2.1 _ (by omega))).1) ?_
      refine r_bipush (pc2 := 69) dX4_readClose_67 rfl (by decide) (by decide) ?_
      refine r_icne (tgt := 82) (pc2 := 72) dX4_readClose_69 rfl (by decide) ⟨by omega, by omega⟩ ⟨by omega, by omega⟩ (fun b_69 => ?_) (fun b_69 => ?_)
      · refine r_ret dX4_readClose_82 rfl ?_
        have c0 : ¬ gD G = 0 := by omega
        have hl : lClose T r G = (r_256, gClose G) := by
          unfold lClose
          rw [if_neg c0, ← e_r_255, ← e_r_256]
        rw [hl]
        have q28 : r_256.2 = 0 := by omega
        refine ⟨rfl, (fr.I (fr.I (fr.I (fr.I fr.rf (by decide)) (by decide)) (by decide)) (by decide)), rfl, fun _ => ⟨rfl, ?_⟩⟩
        refine (hG.r (r := r_256)).cls hP (by omega) (fun k h12 h13 => ?_) rfl (by rw [show gT (gClose G) = gT G from if_neg b_69]; exact hG.2.1) ?_ (fun c c9 c11 => ?_) rfl
        · rw [pI_ne (by decide), pI_nk h13]
        · rw [pI_eq, pI_ne (by decide)]
        · rw [pI_ne c11, pI_ne c9]
      · refine r_aload0 (pc2 := 73) dX4_readClose_72 rfl ?_
        refine r_dup (pc2 := 74) dX4_readClose_73 rfl rfl ?_
        refine r_getI (z := ((gT G : Nat) : Int)) (pc2 := 77) dX4_readClose_74 rfl (Or.inl fX4_51) (hK_9 hS) hG.2.1 ?_
        refine r_iconst (pc2 := 78) dX4_readClose_77 rfl ?_
        refine r_iadd (c := ((gT G + 1 : Nat) : Int)) (pc2 := 79) dX4_readClose_78 rfl (by omega) ?_
        refine r_putI (z := ((gT G + 1 : Nat) : Int)) (pc2 := 82) dX4_readClose_79 rfl fX4_51 (w4_12 _) (hK_9 hS) (by decide) ?_
        refine r_ret dX4_readClose_82 rfl ?_
        have c0 : ¬ gD G = 0 := by omega
        have hl : lClose T r G = (r_256, gClose G) := by
          unfold lClose
          rw [if_neg c0, ← e_r_255, ← e_r_256]
        rw [hl]
        have q28 : r_256.2 = 0 := by omega
        refine ⟨rfl, (fr.I (fr.I (fr.I (fr.I (fr.I fr.rf (by decide)) (by decide)) (by decide)) (by decide)) (by decide)), rfl, fun _ => ⟨rfl, ?_⟩⟩
        refine (hG.r (r := r_256)).cls hP (by omega) (fun k h12 h13 => ?_) rfl (by rw [show gT (gClose G) = gT G + 1 from if_pos (by omega)]; rfl) ?_ (fun c c9 c11 => ?_) rfl
        · rw [pI_nk h12, pI_ne (by decide), pI_nk h13]
        · rw [pI_ne (by decide), pI_eq, pI_ne (by decide)]
        · rw [pI_ne c9, pI_ne c11, pI_ne c9]
  · refine r_aload0 (pc2 := 8) dX4_readClose_7 rfl ?_
    refine r_iconst (pc2 := 9) dX4_readClose_8 rfl ?_
    refine r_cv1 (pc2 := 12) dX4_readClose_9 rfl vX4_104 (hK_9 hS) (by decide) (c_X4_fail (d := d + 1) (M := M) (r := r) (w := 1) hS hT hC o_r (by omega)) ?_
    rintro _ M9 ⟨rfl, h9⟩
    obtain ⟨r_257, e_r_257⟩ : ∃ x, x = fl T 1 r := ⟨_, rfl⟩
    rw [← e_r_257] at h9
    rw [h9]
    have o_r_257 : rOk T r_257 := by rw [e_r_257]; exact o_r.f hT (by omega) (by omega)
    have i_r_257 := o_r_257.2
    show Go (Ct (d + 2)) _ yX4_readClose cX4_readClose none 0 0 12 [some (.ref 9), none] [] (rM M r_257)
    refine r_aload0 (pc2 := 13) dX4_readClose_12 rfl ?_
    refine r_bipush (pc2 := 15) dX4_readClose_13 rfl (by decide) (by decide) ?_
    refine r_cv1 (pc2 := 18) dX4_readClose_15 rfl vX4_115 (hK_9 hS) (by decide) (c_X4_readKind (d := d) (M := M) (r := r_257) (k := 41) hS hT hC o_r_257 ⟨by omega, by omega⟩) ?_
    rintro _ M9 ⟨rfl, h9⟩
    obtain ⟨r_258, e_r_258⟩ : ∃ x, x = rK T 41 r_257 := ⟨_, rfl⟩
    rw [← e_r_258] at h9
    rw [h9]
    have o_r_258 : rOk T r_258 := by rw [e_r_258]; exact o_r_257.K hT
    have i_r_258 := o_r_258.2
    show Go (Ct (d + 2)) _ yX4_readClose cX4_readClose none 0 0 18 [some (.ref 9), none] [] (rM M r_258)
    refine r_aload0 (pc2 := 19) dX4_readClose_18 rfl ?_
    refine r_bipush (pc2 := 21) dX4_readClose_19 rfl (by decide) (by decide) ?_
    refine r_cv1 (pc2 := 24) dX4_readClose_21 rfl vX4_115 (hK_9 hS) (by decide) (c_X4_readKind (d := d) (M := M) (r := r_258) (k := 59) hS hT hC o_r_258 ⟨by omega, by omega⟩) ?_
    rintro _ M9 ⟨rfl, h9⟩
    obtain ⟨r_259, e_r_259⟩ : ∃ x, x = rK T 59 r_258 := ⟨_, rfl⟩
    rw [← e_r_259] at h9
    rw [h9]
    have o_r_259 : rOk T r_259 := by rw [e_r_259]; exact o_r_258.K hT
    have i_r_259 := o_r_259.2
    show Go (Ct (d + 2)) _ yX4_readClose cX4_readClose none 0 0 24 [some (.ref 9), none] [] (rM M r_259)
    refine r_aload0 (pc2 := 25) dX4_readClose_24 rfl ?_
    refine r_getI (z := r_259.2) (pc2 := 28) dX4_readClose_25 rfl (Or.inl fX4_57) (hK_9 hS) rM_f ?_
    refine r_ifne (tgt := 82) (pc2 := 31) dX4_readClose_28 rfl (by decide) ⟨by omega, by omega⟩ (fun b_28 => ?_) (fun b_28 => ?_)
    · refine r_ret dX4_readClose_82 rfl ?_
      have c0 : gD G = 0 := by omega
      have hl : lClose T r G = (r_259, gClose G) := by
        unfold lClose
        rw [if_pos c0, ← e_r_257, ← e_r_258, ← e_r_259]
      rw [hl]
      refine ⟨rfl, (fr.rf.I (by decide)).I (by decide), rfl, fun q => absurd q b_28⟩
    · have q28 : r_259.2 = 0 := by omega
      have f_r_259 := rK_0 (k := 59) hT o_r_258 (by omega) (by rw [← e_r_259]; exact q28)
      have f_r_258 := rK_0 (k := 41) hT o_r_257 (by omega) (by rw [← e_r_258]; exact f_r_259.1)
      exact absurd (show (fl T 1 r).2 = 0 from by rw [← e_r_257]; exact f_r_258.1) (fl_f (by omega) i_r.1)
set_option maxHeartbeats 4000000 in
theorem c_X4_readLine {d : Nat} {M : pM} {T : tD} {r : rdT} {G : gPr} {u ns : Nat → Nat} (hS : sOk M.1) (hT : tOk T) (hC : cT M T) (o_r : rOk T r) (hr : r.2 = 0) (hG : CG M G) (hP : PV G u ns) (hp : pos T r G) : Ct (d + 6) 0 0 yX4_readLine [.ref 9] (rM M r) (fun v M2 => v = none ∧ cPo M M2 (pst T (r, G))) := by
  refine ct_in (d := (d + 5)) kX4_readLine rfl (by decide) (Nat.le_of_ble_eq_true rfl) (by decide) ?_
  show Go (Ct (d + 5)) _ yX4_readLine cX4_readLine none 0 0 0 [some (.ref 9)] [] (rM M r)
  have hg := hP.ok
  have i_r := o_r.2
  have kr := kK_r hT o_r.1
  refine r_aload0 (pc2 := 1) dX4_readLine_0 rfl ?_
  refine r_cv0 (pc2 := 4) dX4_readLine_1 rfl vX4_72 (hK_9 hS) (by decide) (c_X4_kindAtHand (d := d + 4) (M := M) (r := r) hS hT hC o_r) ?_
  rintro _ M9 ⟨rfl, h9⟩
  rw [h9]
  show Go (Ct (d + 5)) _ yX4_readLine cX4_readLine none 0 0 4 [some (.ref 9)] [.int (iI (kK T r.1))] (rM M r)
  by_cases sw4_10 : (kK T r.1) = 10
  · refine r_tabIn (tgt := 48) dX4_readLine_4 ⟨by omega, by omega⟩ 0 (by omega) (by omega) rfl (by decide) ?_
    refine r_aload0 (pc2 := 49) dX4_readLine_48 rfl ?_
    refine r_cv0 (pc2 := 52) dX4_readLine_49 rfl vX4_76 (hK_9 hS) (by decide) (c_X4_readPut (d := d + 1) hS hT hC o_r hr hG hg (pos_125 hT o_r hp (by omega))) ?_
    rintro _ M9 ⟨rfl, h9⟩
    show Go (Ct (d + 5)) _ yX4_readLine cX4_readLine none 0 0 52 [some (.ref 9)] [] M9
    refine r_goto (tgt := 101) dX4_readLine_52 (by decide) ?_
    refine r_ret dX4_readLine_101 rfl ?_
    refine ⟨rfl, ?_⟩
    have hl : pst T (r, G) = lPut T r G := by unfold pst; dsimp only; rw [if_pos sw4_10]
    rw [hl]; exact h9
  by_cases sw4_11 : (kK T r.1) = 11
  · refine r_tabIn (tgt := 55) dX4_readLine_4 ⟨by omega, by omega⟩ 1 (by omega) (by omega) rfl (by decide) ?_
    refine r_aload0 (pc2 := 56) dX4_readLine_55 rfl ?_
    refine r_cv0 (pc2 := 59) dX4_readLine_56 rfl vX4_79 (hK_9 hS) (by decide) (c_X4_readAgain (d := d) hS hT hC o_r hr hG hg (pos_125 hT o_r hp (by omega))) ?_
    rintro _ M9 ⟨rfl, h9⟩
    show Go (Ct (d + 5)) _ yX4_readLine cX4_readLine none 0 0 59 [some (.ref 9)] [] M9
    refine r_goto (tgt := 101) dX4_readLine_59 (by decide) ?_
    refine r_ret dX4_readLine_101 rfl ?_
    refine ⟨rfl, ?_⟩
    have hl : pst T (r, G) = lAgain T r G := by unfold pst; dsimp only; rw [if_neg sw4_10, if_pos sw4_11]
    rw [hl]; exact h9
  by_cases sw4_12 : (kK T r.1) = 12
  · refine r_tabIn (tgt := 62) dX4_readLine_4 ⟨by omega, by omega⟩ 2 (by omega) (by omega) rfl (by decide) ?_
    refine r_aload0 (pc2 := 63) dX4_readLine_62 rfl ?_
    refine r_cv0 (pc2 := 66) dX4_readLine_63 rfl vX4_82 (hK_9 hS) (by decide) (c_X4_readMirror (d := d) hS hT hC o_r hr hG hg (pos_125 hT o_r hp (by omega))) ?_
    rintro _ M9 ⟨rfl, h9⟩
    show Go (Ct (d + 5)) _ yX4_readLine cX4_readLine none 0 0 66 [some (.ref 9)] [] M9
    refine r_goto (tgt := 101) dX4_readLine_66 (by decide) ?_
    refine r_ret dX4_readLine_101 rfl ?_
    refine ⟨rfl, ?_⟩
    have hl : pst T (r, G) = lMirror T r G := by unfold pst; dsimp only; rw [if_neg sw4_10, if_neg sw4_11, if_pos sw4_12]
    rw [hl]; exact h9
  by_cases sw4_13 : (kK T r.1) = 13
  · refine r_tabIn (tgt := 69) dX4_readLine_4 ⟨by omega, by omega⟩ 3 (by omega) (by omega) rfl (by decide) ?_
    refine r_aload0 (pc2 := 70) dX4_readLine_69 rfl ?_
    refine r_cv0 (pc2 := 73) dX4_readLine_70 rfl vX4_85 (hK_9 hS) (by decide) (c_X4_readLet (d := d) hS hT hC o_r hr hG hg (pos_125 hT o_r hp (by omega))) ?_
    rintro _ M9 ⟨rfl, h9⟩
    show Go (Ct (d + 5)) _ yX4_readLine cX4_readLine none 0 0 73 [some (.ref 9)] [] M9
    refine r_goto (tgt := 101) dX4_readLine_73 (by decide) ?_
    refine r_ret dX4_readLine_101 rfl ?_
    refine ⟨rfl, ?_⟩
    have hl : pst T (r, G) = lLet T r G := by unfold pst; dsimp only; rw [if_neg sw4_10, if_neg sw4_11, if_neg sw4_12, if_pos sw4_13]
    rw [hl]; exact h9
  by_cases sw4_14 : (kK T r.1) = 14
  · refine r_tabIn (tgt := 76) dX4_readLine_4 ⟨by omega, by omega⟩ 4 (by omega) (by omega) rfl (by decide) ?_
    refine r_aload0 (pc2 := 77) dX4_readLine_76 rfl ?_
    refine r_cv0 (pc2 := 80) dX4_readLine_77 rfl vX4_88 (hK_9 hS) (by decide) (c_X4_readUse (d := d) hS hT hC o_r hr hG hg (pos_125 hT o_r hp (by omega))) ?_
    rintro _ M9 ⟨rfl, h9⟩
    show Go (Ct (d + 5)) _ yX4_readLine cX4_readLine none 0 0 80 [some (.ref 9)] [] M9
    refine r_goto (tgt := 101) dX4_readLine_80 (by decide) ?_
    refine r_ret dX4_readLine_101 rfl ?_
    refine ⟨rfl, ?_⟩
    have hl : pst T (r, G) = lUse T r G := by unfold pst; dsimp only; rw [if_neg sw4_10, if_neg sw4_11, if_neg sw4_12, if_neg sw4_13, if_pos sw4_14]
    rw [hl]; exact h9
  by_cases sw4_15 : (kK T r.1) = 15
  · refine r_tabIn (tgt := 83) dX4_readLine_4 ⟨by omega, by omega⟩ 5 (by omega) (by omega) rfl (by decide) ?_
    refine r_aload0 (pc2 := 84) dX4_readLine_83 rfl ?_
    refine r_cv0 (pc2 := 87) dX4_readLine_84 rfl vX4_91 (hK_9 hS) (by decide) (c_X4_readLane (d := d + 1) hS hT hC o_r hr hG hg (pos_125 hT o_r hp (by omega))) ?_
    rintro _ M9 ⟨rfl, h9⟩
    show Go (Ct (d + 5)) _ yX4_readLine cX4_readLine none 0 0 87 [some (.ref 9)] [] M9
    refine r_goto (tgt := 101) dX4_readLine_87 (by decide) ?_
    refine r_ret dX4_readLine_101 rfl ?_
    refine ⟨rfl, ?_⟩
    have hl : pst T (r, G) = lLane T r G := by unfold pst; dsimp only; rw [if_neg sw4_10, if_neg sw4_11, if_neg sw4_12, if_neg sw4_13, if_neg sw4_14, if_pos sw4_15]
    rw [hl]; exact h9
  by_cases sw4_16 : (kK T r.1) = 16
  · refine r_tabIn (tgt := 90) dX4_readLine_4 ⟨by omega, by omega⟩ 6 (by omega) (by omega) rfl (by decide) ?_
    refine r_aload0 (pc2 := 91) dX4_readLine_90 rfl ?_
    refine r_cv0 (pc2 := 94) dX4_readLine_91 rfl vX4_94 (hK_9 hS) (by decide) (c_X4_readHopper (d := d + 1) hS hT hC o_r hr hG hg (pos_125 hT o_r hp (by omega))) ?_
    rintro _ M9 ⟨rfl, h9⟩
    show Go (Ct (d + 5)) _ yX4_readLine cX4_readLine none 0 0 94 [some (.ref 9)] [] M9
    refine r_goto (tgt := 101) dX4_readLine_94 (by decide) ?_
    refine r_ret dX4_readLine_101 rfl ?_
    refine ⟨rfl, ?_⟩
    have hl : pst T (r, G) = lHopper T r G := by unfold pst; dsimp only; rw [if_neg sw4_10, if_neg sw4_11, if_neg sw4_12, if_neg sw4_13, if_neg sw4_14, if_neg sw4_15, if_pos sw4_16]
    rw [hl]; exact h9
  refine r_tabOut (tgt := 97) dX4_readLine_4 ⟨by omega, by omega⟩ (by omega) (by decide) ?_
  refine r_aload0 (pc2 := 98) dX4_readLine_97 rfl ?_
  refine r_cv0 (pc2 := 101) dX4_readLine_98 rfl vX4_97 (hK_9 hS) (by decide) (c_X4_readClose (d := d + 2) hS hT hC o_r hr hG hP) ?_
  rintro _ M9 ⟨rfl, h9⟩
  show Go (Ct (d + 5)) _ yX4_readLine cX4_readLine none 0 0 101 [some (.ref 9)] [] M9
  refine r_ret dX4_readLine_101 rfl ?_
  refine ⟨rfl, ?_⟩
  have hl : pst T (r, G) = lClose T r G := by unfold pst; dsimp only; rw [if_neg sw4_10, if_neg sw4_11, if_neg sw4_12, if_neg sw4_13, if_neg sw4_14, if_neg sw4_15, if_neg sw4_16]
  rw [hl]; exact h9
theorem rdn_d {T : tD} {r : rdT} {G : gPr} : rdn T (r, G) ↔ ¬ r.2 = 0 ∨ kK T r.1 = 22 ∧ gD G = 0 := Iff.rfl
set_option maxHeartbeats 4000000 in
theorem c_X4_isRead {d : Nat} {M : pM} {T : tD} {r : rdT} {G : gPr} (hS : sOk M.1) (hT : tOk T) (hC : cT M T) (o_r : rOk T r) (hG : r.2 = 0 → M.2.1 9 13 = ((gD G : Nat) : Int) ∧ gD G ≤ 5) : Ct (d + 2) 0 0 yX4_isRead [.ref 9] (rM M r) (fun v M2 => M2 = rM M r ∧ (rdn T (r, G) ∧ v = some (.int (iI 1)) ∨ ¬ rdn T (r, G) ∧ v = some (.int (iI 0)))) := by
  refine ct_in (d := (d + 1)) kX4_isRead rfl (by decide) (Nat.le_of_ble_eq_true rfl) (by decide) ?_
  show Go (Ct (d + 1)) _ yX4_isRead cX4_isRead (some .boolean) 0 0 0 [some (.ref 9)] [] (rM M r)
  have i_r := o_r.2
  have kr := kK_r hT o_r.1
  refine r_aload0 (pc2 := 1) dX4_isRead_0 rfl ?_
  refine r_getI (z := r.2) (pc2 := 4) dX4_isRead_1 rfl (Or.inl fX4_57) (hK_9 hS) rM_f ?_
  refine r_ifne (tgt := 23) (pc2 := 7) dX4_isRead_4 rfl (by decide) ⟨by omega, by omega⟩ (fun b_4 => ?_) (fun b_4 => ?_)
  · refine r_iconst (pc2 := 24) dX4_isRead_23 rfl ?_
    refine r_goto (tgt := 28) dX4_isRead_24 (by decide) ?_
    refine r_iretz dX4_isRead_28 rfl (by omega) ?_
    exact ⟨rfl, Or.inl ⟨Or.inl b_4, rfl⟩⟩
  · refine r_aload0 (pc2 := 8) dX4_isRead_7 rfl ?_
    refine r_cv0 (pc2 := 11) dX4_isRead_8 rfl vX4_72 (hK_9 hS) (by decide) (c_X4_kindAtHand (d := d) (M := M) (r := r) hS hT hC o_r) ?_
    rintro _ M9 ⟨rfl, h9⟩
    rw [h9]
    have hG2 := hG (by omega)
    show Go (Ct (d + 1)) _ yX4_isRead cX4_isRead (some .boolean) 0 0 11 [some (.ref 9)] [.int (iI (kK T r.1))] (rM M r)
    refine r_bipush (pc2 := 13) dX4_isRead_11 rfl (by decide) (by decide) ?_
    refine r_icne (tgt := 27) (pc2 := 16) dX4_isRead_13 rfl (by decide) ⟨by omega, by omega⟩ ⟨by omega, by omega⟩ (fun b_13 => ?_) (fun b_13 => ?_)
    · refine r_iconst (pc2 := 28) dX4_isRead_27 rfl ?_
      refine r_iretz dX4_isRead_28 rfl (by omega) ?_
      exact ⟨rfl, Or.inr ⟨fun q => q.elim (fun c => c (by omega)) (fun c => b_13 c.1), rfl⟩⟩
    · refine r_aload0 (pc2 := 17) dX4_isRead_16 rfl ?_
      refine r_getI (z := ((gD G : Nat) : Int)) (pc2 := 20) dX4_isRead_17 rfl (Or.inl fX4_54) (hK_9 hS) hG2.1 ?_
      refine r_ifne (tgt := 27) (pc2 := 23) dX4_isRead_20 rfl (by decide) ⟨by omega, by omega⟩ (fun b_20 => ?_) (fun b_20 => ?_)
      · refine r_iconst (pc2 := 28) dX4_isRead_27 rfl ?_
        refine r_iretz dX4_isRead_28 rfl (by omega) ?_
        exact ⟨rfl, Or.inr ⟨fun q => q.elim (fun c => c (by omega)) (fun c => by have : gD G = 0 := c.2; omega), rfl⟩⟩
      · refine r_iconst (pc2 := 24) dX4_isRead_23 rfl ?_
        refine r_goto (tgt := 28) dX4_isRead_24 (by decide) ?_
        refine r_iretz dX4_isRead_28 rfl (by omega) ?_
        exact ⟨rfl, Or.inl ⟨Or.inr ⟨by omega, by show gD G = 0; omega⟩, rfl⟩⟩
set_option maxHeartbeats 4000000 in
theorem c_X4_isReadF {d : Nat} {M : pM} {z : Int} (hS : sOk M.1) (hz : M.2.1 9 14 = z) (hn : ¬ z = 0) (hzr : 0 ≤ z ∧ z ≤ 16005) : Ct (d + 2) 0 0 yX4_isRead [.ref 9] M (fun v M2 => M2 = M ∧ v = some (.int (iI 1))) := by
  refine ct_in (d := (d + 1)) kX4_isRead rfl (by decide) (Nat.le_of_ble_eq_true rfl) (by decide) ?_
  show Go (Ct (d + 1)) _ yX4_isRead cX4_isRead (some .boolean) 0 0 0 [some (.ref 9)] [] M
  refine r_aload0 (pc2 := 1) dX4_isRead_0 rfl ?_
  refine r_getI (z := z) (pc2 := 4) dX4_isRead_1 rfl (Or.inl fX4_57) (hK_9 hS) hz ?_
  refine r_ifne (tgt := 23) (pc2 := 7) dX4_isRead_4 rfl (by decide) ⟨by omega, by omega⟩ (fun b_4 => ?_) (fun b_4 => ?_)
  · refine r_iconst (pc2 := 24) dX4_isRead_23 rfl ?_
    refine r_goto (tgt := 28) dX4_isRead_24 (by decide) ?_
    refine r_iretz dX4_isRead_28 rfl (by omega) ?_
    exact ⟨rfl, rfl⟩
  · exact absurd b_4 hn
/-- the program is read to its end, or to its FAULT -/
noncomputable def itr (T : tD) : Nat → pS2 → pS2
  | 0, x => x
  | m + 1, x => by classical exact if rdn T x then x else itr T m (pst T x)
theorem itr_y {T : tD} {m : Nat} {x : pS2} (h : rdn T x) : itr T (m + 1) x = x := by rw [itr, if_pos h]
theorem itr_n {T : tD} {m : Nat} {x : pS2} (h : ¬ rdn T x) : itr T (m + 1) x = itr T m (pst T x) := by rw [itr, if_neg h]
/-- a state of the reading -/
def rSt (T : tD) (x : pS2) : Prop := rOk T x.1 ∧ (x.1.2 = 0 → (∃ u ns, PV x.2 u ns) ∧ pos T x.1 x.2)
theorem rSt.s {T : tD} {x : pS2} (hT : tOk T) (h : rSt T x) (h0 : x.1.2 = 0) : rSt T (pst T x) ∧ ((pst T x).1.2 = 0 → x.1.1 < (pst T x).1.1) := by
  obtain ⟨⟨u, ns, hP⟩, hp⟩ := h.2 h0
  have := pst_nxt hT h.1 h0 hP hp
  exact ⟨⟨this.1, fun q => (this.2 q).2⟩, fun q => (this.2 q).1⟩
theorem itr_st {T : tD} (hT : tOk T) : ∀ m x, rSt T x → rSt T (itr T m x) := by
  intro m
  induction m with
  | zero => intro x h; exact h
  | succ m ih =>
    intro x h
    by_cases c : rdn T x
    · rw [itr_y c]; exact h
    · rw [itr_n c]
      have h0 : x.1.2 = 0 := Classical.byContradiction (fun q => c (Or.inl q))
      exact ih _ (h.s hT h0).1
theorem itr_end {T : tD} (hT : tOk T) : ∀ m x, rSt T x → T.1 < x.1.1 + m → 0 < m → rdn T (itr T m x) := by
  intro m
  induction m with
  | zero => intro x _ _ h; omega
  | succ m ih =>
    intro x h hm _
    by_cases c : rdn T x
    · rw [itr_y c]; exact c
    · rw [itr_n c]
      have h0 : x.1.2 = 0 := Classical.byContradiction (fun q => c (Or.inl q))
      have h1 := h.s hT h0
      by_cases c2 : (pst T x).1.2 = 0
      · have h2 := h1.2 c2
        have h3 := h1.1.1.1
        exact ih _ h1.1 (by omega) (by omega)
      · cases m with
        | zero => exact Or.inl c2
        | succ m => rw [itr_y (Or.inl c2)]; exact Or.inl c2
def gG0 : gPr := ((0, 0, 0), ((fun _ => 0), (fun _ => 0)), ((fun _ => 0), (fun _ => 0), (fun _ => 0), (fun _ => 0)), (fun _ => 0), (fun _ => 0), (fun _ => 0))
theorem PV_0 : PV gG0 (fun _ => 0) (fun _ => 0) := by
  have e : iL gG0 = 0 := by have := iL_D (G := gG0); have h : gD gG0 = 0 := rfl; omega
  refine ⟨⟨by decide, by decide, by decide, by rw [e]; decide⟩, fun k hk => ?_, fun j k hj => ?_, fun q hq => absurd (show q < 0 from hq) (by omega), fun i hi => absurd (show i < 0 from hi) (by omega)⟩
  · rw [e] at hk; exact absurd (show k < 0 from hk) (by omega)
  · rw [e] at hj; exact absurd (show j < 0 from hj) (by omega)
theorem rSt_0 {T : tD} : rSt T ((0, 0), gG0) := ⟨⟨Nat.zero_le _, by show (0 : Int) ≤ 0; decide, by show (0 : Int) ≤ 16005; decide⟩, fun _ => ⟨⟨_, _, PV_0⟩, by unfold pos; show 8 * 0 ≤ _; omega⟩⟩
set_option maxHeartbeats 4000000 in
theorem lp_X4_read {d : Nat} {Q : pQ} {T : tD} {F : pS2} (M0 : pM) (hS0 : sOk M0.1) (hT : tOk T) (hC0 : cT M0 T)
    (hQ : ∀ M2, fr [9, 10, 11, 12, 13, 14, 15, 16, 17, 18] M0 M2 → (F.1.2 = 0 → CG M2 F.2) → Q (some (.int (iI F.1.2))) M2) :
    ∀ (m i : Nat) (x : pS2) (M : pM), i + m = 1001 → fr [9, 10, 11, 12, 13, 14, 15, 16, 17, 18] M0 M → rSt T x → M.2.1 9 14 = x.1.2 → (x.1.2 = 0 → M.2.1 9 10 = ((x.1.1 : Nat) : Int) ∧ CG M x.2) → itr T m x = F →
      Go (Ct (d + 6)) Q yX4_read cX4_read (some .int) 0 0 34 [some (.ref 9), some (.int (iI ((i : Nat) : Int)))] [] M := by
  intro m
  induction m with
  | zero =>
    intro i x M hm hfr hx h14 h10 hF
    obtain rfl : i = 1001 := by omega
    have hS := hfr.ok hS0
    rw [itr] at hF
    subst hF
    refine r_iload1 (pc2 := 35) dX4_read_34 rfl ?_
    refine r_sipush (pc2 := 38) dX4_read_35 rfl (by decide) (by decide) ?_
    refine r_icgt (tgt := 58) (pc2 := 41) dX4_read_38 rfl (by decide) ⟨by omega, by omega⟩ ⟨by omega, by omega⟩ (fun _ => ?_) (fun h9 => absurd h9 (by decide))
    refine r_aload0 (pc2 := 59) dX4_read_58 rfl ?_
    refine r_getI (z := x.1.2) (pc2 := 62) dX4_read_59 rfl (Or.inl fX4_57) (hK_9 hS) h14 ?_
    refine r_ireti dX4_read_62 rfl ?_
    exact hQ M hfr (fun q => (h10 q).2)
  | succ m ih =>
    intro i x M hm hfr hx h14 h10 hF
    obtain ⟨r, G⟩ := x
    have hS := hfr.ok hS0
    have hC : cT M T := ⟨by rw [hfr.i (by decide)]; exact hC0.1, fun j hj => by rw [hfr.i (by decide), hfr.i (by decide)]; exact hC0.2.1 j hj, fun j hj q => by rw [hfr.j (by decide)]; exact hC0.2.2.1 j hj q, fun j hj q => by rw [hfr.j (by decide)]; exact hC0.2.2.2 j hj q⟩
    by_cases hz : r.2 = 0
    · have h11 := h10 hz
      have eM : rM M r = M := rM_id h11.1 h14
      obtain ⟨⟨u, ns, hP⟩, hp⟩ := hx.2 hz
      rw [← eM]
      refine r_iload1 (pc2 := 35) dX4_read_34 rfl ?_
      refine r_sipush (pc2 := 38) dX4_read_35 rfl (by decide) (by decide) ?_
      refine r_icgt (tgt := 58) (pc2 := 41) dX4_read_38 rfl (by decide) ⟨by omega, by omega⟩ ⟨by omega, by omega⟩ (fun b_38 => ?_) (fun b_38 => ?_)
      · refine r_aload0 (pc2 := 59) dX4_read_58 rfl ?_
        refine r_getI (z := r.2) (pc2 := 62) dX4_read_59 rfl (Or.inl fX4_57) (hK_9 hS) rM_f ?_
        refine r_ireti dX4_read_62 rfl ?_
        exact absurd b_38 (by omega)
      · refine r_aload0 (pc2 := 42) dX4_read_41 rfl ?_
        refine r_cv0 (pc2 := 45) dX4_read_42 rfl vX4_65 (hK_9 hS) (by decide) (c_X4_isRead (d := d + 4) (M := M) (r := r) (G := G) hS hT hC hx.1 (fun _ => ⟨h11.2.2.2.1, hP.1.2.1⟩)) ?_
        rintro _ M9 ⟨h9, ⟨hd, rfl⟩ | ⟨hd, rfl⟩⟩
        · rw [h9]
          show Go (Ct (d + 6)) _ yX4_read cX4_read (some .int) 0 0 45 [some (.ref 9), some (.int (iI ((i : Nat) : Int)))] [.int (iI 1)] (rM M r)
          refine r_ifne (tgt := 58) (pc2 := 48) dX4_read_45 rfl (by decide) ⟨by omega, by omega⟩ (fun _ => ?_) (fun h9 => absurd h9 (by decide))
          refine r_aload0 (pc2 := 59) dX4_read_58 rfl ?_
          refine r_getI (z := r.2) (pc2 := 62) dX4_read_59 rfl (Or.inl fX4_57) (hK_9 hS) rM_f ?_
          refine r_ireti dX4_read_62 rfl ?_
          rw [itr_y hd] at hF
          subst hF
          rw [eM]
          exact hQ M hfr (fun _ => h11.2)
        · rw [h9]
          show Go (Ct (d + 6)) _ yX4_read cX4_read (some .int) 0 0 45 [some (.ref 9), some (.int (iI ((i : Nat) : Int)))] [.int (iI 0)] (rM M r)
          refine r_ifne (tgt := 58) (pc2 := 48) dX4_read_45 rfl (by decide) ⟨by omega, by omega⟩ (fun h9 => absurd h9 (by decide)) (fun _ => ?_)
          refine r_aload0 (pc2 := 49) dX4_read_48 rfl ?_
          refine r_cv0 (pc2 := 52) dX4_read_49 rfl vX4_69 (hK_9 hS) (by decide) (c_X4_readLine (d := d) (M := M) (r := r) (G := G) hS hT hC hx.1 hz h11.2 hP hp) ?_
          rintro _ M8 ⟨rfl, f8, g8, e8⟩
          show Go (Ct (d + 6)) _ yX4_read cX4_read (some .int) 0 0 52 [some (.ref 9), some (.int (iI ((i : Nat) : Int)))] [] M8
          refine r_iinc1 (z := ((i + 1 : Nat) : Int)) (pc2 := 55) dX4_read_52 rfl (by omega) rfl ?_
          refine r_goto (tgt := 34) dX4_read_55 (by decide) ?_
          rw [itr_n hd] at hF
          exact ih (i + 1) _ M8 (by omega) (hfr.tr f8) (hx.s hT hz).1 g8 e8 hF
    · have hd : rdn T (r, G) := Or.inl hz
      have ho := hx.1
      have e14 : M.2.1 9 14 = r.2 := h14
      rw [itr_y hd] at hF
      subst hF
      refine r_iload1 (pc2 := 35) dX4_read_34 rfl ?_
      refine r_sipush (pc2 := 38) dX4_read_35 rfl (by decide) (by decide) ?_
      refine r_icgt (tgt := 58) (pc2 := 41) dX4_read_38 rfl (by decide) ⟨by omega, by omega⟩ ⟨by omega, by omega⟩ (fun b_38 => ?_) (fun b_38 => ?_)
      · refine r_aload0 (pc2 := 59) dX4_read_58 rfl ?_
        refine r_getI (z := r.2) (pc2 := 62) dX4_read_59 rfl (Or.inl fX4_57) (hK_9 hS) e14 ?_
        refine r_ireti dX4_read_62 rfl ?_
        exact absurd b_38 (by omega)
      · refine r_aload0 (pc2 := 42) dX4_read_41 rfl ?_
        refine r_cv0 (pc2 := 45) dX4_read_42 rfl vX4_65 (hK_9 hS) (by decide) (c_X4_isReadF (d := d + 4) (M := M) hS e14 hz hx.1.2) ?_
        rintro _ M9 ⟨h9, rfl⟩
        rw [h9]
        show Go (Ct (d + 6)) _ yX4_read cX4_read (some .int) 0 0 45 [some (.ref 9), some (.int (iI ((i : Nat) : Int)))] [.int (iI 1)] M
        refine r_ifne (tgt := 58) (pc2 := 48) dX4_read_45 rfl (by decide) ⟨by omega, by omega⟩ (fun _ => ?_) (fun h9 => absurd h9 (by decide))
        refine r_aload0 (pc2 := 59) dX4_read_58 rfl ?_
        refine r_getI (z := r.2) (pc2 := 62) dX4_read_59 rfl (Or.inl fX4_57) (hK_9 hS) e14 ?_
        refine r_ireti dX4_read_62 rfl ?_
        exact hQ M hfr (fun q => absurd q hz)
/-- a text as tokens, and as it is read -/
noncomputable def rdF (s : Nat → Int) (L : Nat) : pS2 := itr ((tk s L).1, tokK s L, tokS s L, tokV s L, tokI s L) 1001 ((0, 0), gG0)
set_option maxHeartbeats 4000000 in
theorem c_X4_read {d : Nat} {M : pM} {L : Nat} {s : Nat → Int} (hS : sOk M.1) (hW : cWd M) (hL : L ≤ 1000) (hl : M.2.1 3 5 = (L : Int)) (hs : ∀ j, j < L → M.2.1 5 j = s j ∧ 0 ≤ s j ∧ s j ≤ 126) : Ct (d + 7) 0 0 yX4_read [.ref 9] M (fun v M2 => v = some (.int (iI (rdF s L).1.2)) ∧ fr [3, 6, 7, 8, 9, 10, 11, 12, 13, 14, 15, 16, 17, 18] M M2 ∧ (∀ j, j ≠ 5 → j ≠ 6 → M2.2.1 3 j = M.2.1 3 j) ∧ M2.2.1 3 5 = 0 ∧ ((rdF s L).1.2 = 0 → CG M2 (rdF s L).2)) := by
  refine ct_in (d := (d + 6)) kX4_read rfl (by decide) (Nat.le_of_ble_eq_true rfl) (by decide) ?_
  show Go (Ct (d + 6)) _ yX4_read cX4_read (some .int) 0 0 0 [some (.ref 9), none] [] M
  refine r_aload0 (pc2 := 1) dX4_read_0 rfl ?_
  refine r_iconst (pc2 := 2) dX4_read_1 rfl ?_
  refine r_putI (z := 0) (pc2 := 5) dX4_read_2 rfl fX4_44 (w4_10 _) (hK_9 hS) (by decide) ?_
  refine r_aload0 (pc2 := 6) dX4_read_5 rfl ?_
  refine r_iconst (pc2 := 7) dX4_read_6 rfl ?_
  refine r_putI (z := 0) (pc2 := 10) dX4_read_7 rfl fX4_48 (w4_11 _) (hK_9 hS) (by decide) ?_
  refine r_aload0 (pc2 := 11) dX4_read_10 rfl ?_
  refine r_iconst (pc2 := 12) dX4_read_11 rfl ?_
  refine r_putI (z := 0) (pc2 := 15) dX4_read_12 rfl fX4_51 (w4_12 _) (hK_9 hS) (by decide) ?_
  refine r_aload0 (pc2 := 16) dX4_read_15 rfl ?_
  refine r_iconst (pc2 := 17) dX4_read_16 rfl ?_
  refine r_putI (z := 0) (pc2 := 20) dX4_read_17 rfl fX4_54 (w4_13 _) (hK_9 hS) (by decide) ?_
  refine r_aload0 (pc2 := 21) dX4_read_20 rfl ?_
  refine r_iconst (pc2 := 22) dX4_read_21 rfl ?_
  refine r_putI (z := 0) (pc2 := 25) dX4_read_22 rfl fX4_57 (w4_14 _) (hK_9 hS) (by decide) ?_
  obtain ⟨M1, h1⟩ : ∃ M1, M1 = (pI (pI (pI (pI (pI M 9 10 0) 9 11 0) 9 12 0) 9 13 0) 9 14 0) := ⟨_, rfl⟩
  rw [← h1]
  have hS1 : sOk M1.1 := by rw [h1]; exact hS
  have f1 : fr [9] M M1 := by rw [h1]; exact ((((fr.rf.I (by decide)).I (by decide)).I (by decide)).I (by decide)).I (by decide)
  refine r_aload0 (pc2 := 26) dX4_read_25 rfl ?_
  refine r_getR (pc2 := 29) dX4_read_26 rfl fX4_40 (hK_9 hS1) (hR_9_0 hS1) ?_
  refine r_cv0 (pc2 := 32) dX4_read_29 rfl vX4_60 (hK_3 hS1) (by decide) (c_X8_cut (d := d + 4) (L := L) (s := s) hS1 (fun k k1 k2 => by rw [h1]; exact hW k k1 k2) hL (by rw [h1]; exact hl) (fun j hj => by rw [h1]; exact hs j hj)) ?_
  rintro _ M2 ⟨rfl, f2, e3, e5, hC2⟩
  show Go (Ct (d + 6)) _ yX4_read cX4_read (some .int) 0 0 32 [some (.ref 9), none] [] M2
  refine r_iconst (pc2 := 33) dX4_read_32 rfl ?_
  refine r_istore1 (pc2 := 34) dX4_read_33 rfl rfl ?_
  refine lp_X4_read (d := d) (T := ((tk s L).1, tokK s L, tokS s L, tokV s L, tokI s L)) (F := itr ((tk s L).1, tokK s L, tokS s L, tokV s L, tokI s L) 1001 ((0, 0), gG0)) M2 (f2.ok hS1) (tok_TOK hL) hC2 (fun M3 hf hG => ⟨rfl, ?_, ?_, ?_, hG⟩) 1001 0 ((0, 0), gG0) M2 (by omega) fr.rf rSt_0 ?_ (fun _ => ⟨?_, ?_, ?_, ?_, fun i hi => absurd (show i < 0 from hi) (by omega), fun k hk => ?_, fun j hj => absurd (show j < 0 from hj) (by omega)⟩) rfl
  · rw [f2.i (by decide), h1]; rfl
  · rw [f2.i (by decide), h1]; rfl
  · rw [f2.i (by decide), h1]; rfl
  · rw [f2.i (by decide), h1]; rfl
  · rw [f2.i (by decide), h1]; rfl
  · rcases hk with hk | ⟨hk, -⟩
    · exact absurd (show k < 0 from hk) (by omega)
    · exact absurd (show 0 < 0 from hk.1) (by omega)
  · exact ((f1.mono (by decide)).tr (f2.mono (by decide))).tr (hf.mono (by decide))
  · intro j j5 j6; rw [hf.i (by decide), e3 j j5 j6, h1]; rfl
  · rw [hf.i (by decide)]; exact e5
