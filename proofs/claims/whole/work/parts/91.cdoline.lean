/-! the class's doLine -/
theorem agn_1 {f : Int → Int → qS → qS} {sx sy dx dy : Int} {s : qS} (h0 : s.2.2.2.2 = 0) : agn f sx sy 1 dx dy s = f dx dy s := by rw [agn, if_pos h0]; rfl
theorem agn_re {f : Int → Int → qS → qS} {sx sy dx dy : Int} {s : qS} (h0 : ¬ s.2.2.2.2 = 0) : ∀ n, agn f sx sy n dx dy s = s := by
  intro n
  cases n with
  | zero => rfl
  | succ n => rw [agn, if_neg h0]
def dxN (c n : Nat) (x : Int) : Prop := -(200 * (156 - (c : Int))) + 12 * (n : Int) ≤ x ∧ x + 12 * (n : Int) ≤ 200 * (156 - (c : Int))
def DLq (G : gPr) (u ns : Nat → Nat) (t i c : Nat) (dx dy m : Int) (s : qS) (ix : Nat → Nat) (M : pM) (v : Option Value) (M2 : pM) : Prop :=
  (2000 < s.2.2.1 + 1 ∧ v = some (.int (iI 4)) ∧ CQ M2 (qRe (qLd s) 4) ix ∧ frC t M M2 ∧ M2.2.1 29 12 = ((t : Nat) : Int)) ∨
  (¬ 2000 < s.2.2.1 + 1 ∧ ∃ s2 ix2, (∀ rec, qLine G rec i m dx dy (qLd s) = s2) ∧ v = some (.int (iI s2.2.2.2.2)) ∧ CQ M2 s2 ix2 ∧ frC t M M2 ∧ M2.2.1 29 12 = ((t : Nat) : Int) ∧ M2.2.1 30 t = (((gE G i).toNat : Nat) : Int)) ∨
  (¬ 2000 < s.2.2.1 + 1 ∧ ∃ (a b n : Nat) (SX SY ax ay m2 : Int), (∀ rec, qLine G rec i m dx dy (qLd s) = agn (fun ax ay s => rec a b m2 ax ay s) SX SY (n + 1) ax ay (qLd s)) ∧ v = some (.int (iI 0)) ∧ CQ M2 (qLd s) ix ∧ frC t M M2 ∧ M2.2.1 30 t = (((gE G i).toNat : Nat) : Int) ∧ FT M2 (t + 1) a a b (n + 1) SX SY ax ay m2 ∧ frm G u ns a b c ∧ (n ≤ 11 ∧ a ≤ 126 ∧ b ≤ 125) ∧ (m2 = 0 ∨ m2 = 1) ∧ (-12 ≤ SX ∧ SX ≤ 12 ∧ -12 ≤ SY ∧ SY ≤ 12) ∧ dxN c (n + 1) ax ∧ dxN c (n + 1) ay)
theorem CQ.ld {M : pM} {s : qS} {ix : Nat → Nat} (h : CQ M s ix) : CQ (pI M 29 13 ((s.2.2.1 + 1 : Nat) : Int)) (qLd s) ix := ⟨CB.of h.1 (fun a a1 a2 => by rw [pI_ne (by omega)]) (fun k hk => by rw [pI_ne (by decide)]) rfl, pI_at, by rw [pI_nk (by decide)]; exact h.2.2⟩
theorem CQ.i30 {M : pM} {s : qS} {ix : Nat → Nat} {t : Nat} {z : Int} (h : CQ M s ix) : CQ (pI M 30 t z) s ix := ⟨CB.of h.1 (fun a a1 a2 => by rw [pI_ne (by omega)]) (fun k hk => by rw [pI_ne (by decide)]) rfl, by rw [pI_ne (by decide)]; exact h.2.1, by rw [pI_ne (by decide)]; exact h.2.2⟩
theorem CQ.lane {M : pM} {s : qS} {ix : Nat → Nat} {l : Nat} {v : Int} (h : CQ M s ix) : CQ (pI M 25 l v) (qLane s l v) ix := by
  obtain ⟨⟨⟨h1, h2, h3⟩, h4, ⟨h5, h6⟩, h7, h8⟩, h9, h10⟩ := h
  refine ⟨⟨⟨?_, ?_, ?_⟩, h4, ⟨?_, ?_⟩, ?_, fun x hx => ?_⟩, ?_, ?_⟩
  · rw [pI_ne (by decide)]; exact h1
  · rw [pI_ne (by decide)]; exact h2
  · rw [pI_ne (by decide)]; exact h3
  · rw [pI_ne (by decide)]; exact h5
  · rw [pI_ne (by decide)]; exact h6
  · rw [pI_ne (show (27 : Nat) ≠ 25 by decide), pI_ne (show (26 : Nat) ≠ 25 by decide), pI_ne (show (28 : Nat) ≠ 25 by decide)]; exact h7
  · show _ = va_up s.1.2.2.2.1 l v x
    rw [pI_eq]
    by_cases e : x = l
    · rw [e, up_at, up_at]
    · rw [up_ne e, up_ne e]; exact h8 x hx
  · rw [pI_ne (by decide)]; exact h9
  · rw [pI_ne (by decide)]; exact h10
theorem CQ.hop {M : pM} {s : qS} {ix : Nat → Nat} {h c : Nat} {k n : Int} (hq : CQ M s ix) : CQ (pI (pI (pI M 26 h ((c : Nat) : Int)) 27 h k) 28 h n) (qHop s h c k n) ix := by
  obtain ⟨⟨⟨h1, h2, h3⟩, h4, ⟨h5, h6⟩, h7, h8⟩, h9, h10⟩ := hq
  refine ⟨⟨⟨?_, ?_, ?_⟩, h4, ⟨?_, ?_⟩, fun x hx => ?_, ?_⟩, ?_, ?_⟩
  · rw [pI_ne (by decide), pI_ne (by decide), pI_ne (by decide)]; exact h1
  · rw [pI_ne (by decide), pI_ne (by decide), pI_ne (by decide)]; exact h2
  · rw [pI_ne (by decide), pI_ne (by decide), pI_ne (by decide)]; exact h3
  · rw [pI_ne (by decide), pI_ne (by decide), pI_ne (by decide)]; exact h5
  · rw [pI_ne (by decide), pI_ne (by decide), pI_ne (by decide)]; exact h6
  · show _ = va_up s.1.2.1 h k x ∧ _ = ((va_up s.1.2.2.1 h c x : Nat) : Int) ∧ _ = va_up s.1.2.2.2.2 h n x
    rw [pI_ne (show (27 : Nat) ≠ 28 by decide), pI_eq, pI_ne (show (27 : Nat) ≠ 26 by decide), pI_ne (show (26 : Nat) ≠ 28 by decide), pI_ne (show (26 : Nat) ≠ 27 by decide), pI_eq, pI_eq, pI_ne (show (28 : Nat) ≠ 27 by decide), pI_ne (show (28 : Nat) ≠ 26 by decide)]
    by_cases e : x = h
    · rw [e, up_at, up_at, up_at, up_at, up_at, up_at]; exact ⟨rfl, rfl, rfl⟩
    · rw [up_ne e, up_ne e, up_ne e, up_ne e, up_ne e, up_ne e]; exact h7 x hx
  · rw [pI_ne (by decide), pI_ne (by decide), pI_ne (by decide)]; exact h8
  · rw [pI_ne (by decide), pI_ne (by decide), pI_ne (by decide)]; exact h9
  · rw [pI_ne (by decide), pI_ne (by decide), pI_ne (by decide)]; exact h10
theorem c_X2_doPut {d : Nat} {M : pM} {G : gPr} {u ns : Nat → Nat} {t i i2 st e tl : Nat} {sx sy dx dy m : Int} {s : qS} {ix : Nat → Nat} (hS : sOk M.1) (hG : CG M G) (hP : PV G u ns) (hi : i < gS G) (hF : FT M t i2 st e tl sx sy dx dy m) (ht : t < 156) (hA : gA G i = 10) (hQ : CQ M s ix) (ho : qOk s) (hm : m = 0 ∨ m = 1) (hXb : -40000 ≤ dx ∧ dx ≤ 40000) (hYb : -40000 ≤ dy ∧ dy ≤ 40000) : Ct (d + 3) 0 0 yX2_doPut [.ref 29, .int (iI ((i : Nat) : Int))] M (fun v M2 => ∃ s2 ix2, qPut (g1 G i) (g2 G i) (tn m (g3 G i) + dx) (g4 G i + dy) m s = s2 ∧ v = some (.int (iI s2.2.2.2.2)) ∧ CQ M2 s2 ix2 ∧ frC t M M2 ∧ M2.2.1 29 12 = ((t : Nat) : Int) ∧ M2.2.1 30 t = M.2.1 30 t) := by
  have hV := (hP.2.2.2.2 i hi).2.2.2.1.1 hA
  rcases hm with rfl | rfl
  · rw [tn0]
    exact c_X2_doPut0 (q := (13 * (g4 G i + dy) + (g3 G i + dx)).toNat) hS hG hP hi hF ht hA hQ ho (by omega) (by omega) ⟨by omega, by omega⟩ ⟨by omega, by omega⟩ rfl
  · rw [tn1]
    exact c_X2_doPut1 (q := (13 * (g4 G i + dy) + (-g3 G i + dx)).toNat) hS hG hP hi hF ht hA hQ ho (by omega) (by omega) ⟨by omega, by omega⟩ ⟨by omega, by omega⟩ rfl
set_option maxHeartbeats 4000000 in
theorem c_X2_doLine {d : Nat} {M : pM} {G : gPr} {u ns : Nat → Nat} {t i st e tl c : Nat} {sx sy dx dy m : Int} {s : qS} {ix : Nat → Nat} (hS : sOk M.1) (hG : CG M G) (hP : PV G u ns) (hf : frm G u ns i e (c + 1)) (hie : i < e) (hF : FT M t i st e tl sx sy dx dy m) (ht : t + c < 155) (hm : m = 0 ∨ m = 1) (hQ : CQ M s ix) (ho : qOk2 s) (h0 : s.2.2.2.2 = 0) (hdx : dxB (c + 1) dx) (hdy : dxB (c + 1) dy) : Ct (d + 4) 0 0 yX2_doLine [.ref 29, .int (iI ((i : Nat) : Int))] M (fun v M2 => DLq G u ns t i c dx dy m s ix M v M2) := by
  refine ct_in (d := (d + 3)) kX2_doLine rfl (by decide) (Nat.le_of_ble_eq_true rfl) (by decide) ?_
  show Go (Ct (d + 3)) _ yX2_doLine cX2_doLine (some .int) 0 0 0 [some (.ref 29), some (.int (iI ((i : Nat) : Int)))] [] M
  have hi : i < gS G := by have := hf.1; omega
  have hl := hP.2.2.2.2 i hi
  have hA9 := hl.1
  have h125 := hP.1.1
  have hE1 := hl.2.1
  have hE2 := hl.2.2.1
  have hLV := hl.2.2.2.1
  have hL9 := qLd_ok ho h0
  have hE : M.2.1 11 i = (((gE G i).toNat : Nat) : Int) := by rw [(hG.2.2.2.1 i hi).2.1]; omega
  have ho8 := ho.1.2.2.1
  have hc9 := hf.2.2
  unfold dxB at hdx hdy
  refine r_aload0 (pc2 := 1) dX2_doLine_0 rfl ?_
  refine r_dup (pc2 := 2) dX2_doLine_1 rfl rfl ?_
  refine r_getI (z := ((s.2.2.1 : Nat) : Int)) (pc2 := 5) dX2_doLine_2 rfl (Or.inl fX2_55) (hK_29 hS) hQ.2.1 ?_
  refine r_iconst (pc2 := 6) dX2_doLine_5 rfl ?_
  refine r_iadd (c := ((s.2.2.1 + 1 : Nat) : Int)) (pc2 := 7) dX2_doLine_6 rfl (by omega) ?_
  refine r_putI (z := ((s.2.2.1 + 1 : Nat) : Int)) (pc2 := 10) dX2_doLine_7 rfl fX2_55 (w2_13 _) (hK_29 hS) (by decide) ?_
  refine r_aload0 (pc2 := 11) dX2_doLine_10 rfl ?_
  refine r_getI (z := ((s.2.2.1 + 1 : Nat) : Int)) (pc2 := 14) dX2_doLine_11 rfl (Or.inl fX2_55) (hK_29 hS) rfl ?_
  refine r_sipush (pc2 := 17) dX2_doLine_14 rfl (by decide) (by decide) ?_
  refine r_icgt (tgt := 32) (pc2 := 20) dX2_doLine_17 rfl (by decide) ⟨by omega, by omega⟩ ⟨by omega, by omega⟩ (fun b_17 => ?_) (fun b_17 => ?_)
  · refine r_iconst (pc2 := 33) dX2_doLine_32 rfl ?_
    refine r_ireti dX2_doLine_33 rfl ?_
    exact Or.inl ⟨by omega, rfl, hQ.ld, frC.rf.I (by unfold okC; omega), by rw [pI_nk (by decide)]; exact hF.1⟩
  · refine r_aload0 (pc2 := 21) dX2_doLine_20 rfl ?_
    refine r_getI (z := ((t : Nat) : Int)) (pc2 := 24) dX2_doLine_21 rfl (Or.inl fX2_51) (hK_29 hS) hF.1 ?_
    refine r_iconst (pc2 := 25) dX2_doLine_24 rfl ?_
    refine r_iadd (c := ((t + 1 : Nat) : Int)) (pc2 := 26) dX2_doLine_25 rfl (by omega) ?_
    refine r_sipush (pc2 := 29) dX2_doLine_26 rfl (by decide) (by decide) ?_
    refine r_iclt (tgt := 34) (pc2 := 32) dX2_doLine_29 rfl (by decide) ⟨by omega, by omega⟩ ⟨by omega, by omega⟩ (fun b_29 => ?_) (fun b_29 => ?_)
    · refine r_aload0 (pc2 := 35) dX2_doLine_34 rfl ?_
      refine r_getR (pc2 := 38) dX2_doLine_35 rfl fX2_11 (hK_29 hS) (hR_29_2 hS) ?_
      refine r_aload0 (pc2 := 39) dX2_doLine_38 rfl ?_
      refine r_getI (z := ((t : Nat) : Int)) (pc2 := 42) dX2_doLine_39 rfl (Or.inl fX2_51) (hK_29 hS) hF.1 ?_
      refine r_aload0 (pc2 := 43) dX2_doLine_42 rfl ?_
      refine r_getR (pc2 := 46) dX2_doLine_43 rfl fX2_43 (hK_29 hS) (hR_29_0 hS) ?_
      refine r_getR (pc2 := 49) dX2_doLine_46 rfl fX2_86 (hK_9 hS) (hR_9_2 hS) ?_
      refine r_iload1 (pc2 := 50) dX2_doLine_49 rfl ?_
      refine r_iald (z := (((gE G i).toNat : Nat) : Int)) (pc2 := 51) dX2_doLine_50 rfl (hK_11 hS) i rfl (by omega) hE ?_
      refine r_iast (z := (((gE G i).toNat : Nat) : Int)) (pc2 := 52) dX2_doLine_51 rfl (hK_30 hS) (by decide) t rfl (by omega) ?_
      obtain ⟨M1, e1⟩ : ∃ M1, M1 = pI (pI M 29 13 ((s.2.2.1 + 1 : Nat) : Int)) 30 t (((gE G i).toNat : Nat) : Int) := ⟨_, rfl⟩
      rw [← e1]
      have f1 : frC t M M1 := by rw [e1]; exact (frC.rf.I (by unfold okC; omega)).I (by unfold okC; omega)
      have hS1 := f1.ok hS
      have hG1 := hG.fc f1
      have hF1 : FT M1 t (gE G i).toNat st e tl sx sy dx dy m := hF.fc f1 (by rw [e1, pI_ne (by decide), pI_nk (by decide)]; exact hF.1) (by rw [e1]; exact pI_at)
      have hQ1 : CQ M1 (qLd s) ix := by rw [e1]; exact hQ.ld.i30
      refine r_aload0 (pc2 := 53) dX2_doLine_52 rfl ?_
      refine r_getR (pc2 := 56) dX2_doLine_53 rfl fX2_43 (hK_29 hS1) (hR_29_0 hS1) ?_
      refine r_getR (pc2 := 59) dX2_doLine_56 rfl fX2_87 (hK_9 hS1) (hR_9_1 hS1) ?_
      refine r_iload1 (pc2 := 60) dX2_doLine_59 rfl ?_
      refine r_iald (z := (gA G i)) (pc2 := 61) dX2_doLine_60 rfl (hK_10 hS1) i rfl (by omega) (hG1.2.2.2.1 i hi).1 ?_
      by_cases sw61_10 : (gA G i) = 10
      · refine r_tabIn (tgt := 104) dX2_doLine_61 ⟨by omega, by omega⟩ 0 (by omega) (by omega) rfl (by decide) ?_
        have hA : gA G i = 10 := by omega
        refine r_aload0 (pc2 := 105) dX2_doLine_104 rfl ?_
        refine r_iload1 (pc2 := 106) dX2_doLine_105 rfl ?_
        refine r_cv1 (pc2 := 109) dX2_doLine_106 rfl vX2_90 (hK_29 hS1) (by decide) (c_X2_doPut (d := d) hS1 hG1 hP hi hF1 (by omega) hA hQ1 hL9.1 hm ⟨by omega, by omega⟩ ⟨by omega, by omega⟩) ?_
        rintro _ M8 ⟨s2, ix2, q1, rfl, q3, q4, q5, q6⟩
        show Go (Ct (d + 3)) _ yX2_doLine cX2_doLine (some .int) 0 0 109 [some (.ref 29), some (.int (iI ((i : Nat) : Int)))] [.int (iI s2.2.2.2.2)] M8
        refine r_ireti dX2_doLine_109 rfl ?_
        exact Or.inr (Or.inl ⟨by omega, s2, ix2, fun rec => by rw [qL10 hA]; exact q1, rfl, q3, f1.tr q4, q5, q6.trans hF1.2.1⟩)
      by_cases sw61_11 : (gA G i) = 11
      · refine r_tabIn (tgt := 110) dX2_doLine_61 ⟨by omega, by omega⟩ 1 (by omega) (by omega) rfl (by decide) ?_
        have hA : gA G i = 11 := by omega
        have hV := hLV.2.1 hA
        have hin := hf.inn hP hie (Or.inl hA)
        obtain ⟨n, en⟩ : ∃ n, (g1 G i).toNat = n + 1 := ⟨(g1 G i).toNat - 1, by omega⟩
        have ht2 : -12 ≤ tn m (g2 G i) ∧ tn m (g2 G i) ≤ 12 := by unfold tn; split <;> omega
        refine r_aload0 (pc2 := 111) dX2_doLine_110 rfl ?_
        refine r_iload1 (pc2 := 112) dX2_doLine_111 rfl ?_
        refine r_cv1 (pc2 := 115) dX2_doLine_112 rfl vX2_93 (hK_29 hS1) (by decide) (c_X2_beginAgain (d := d + 1) hS1 hG1 hP hi hF1 (by omega) hm hA) ?_
        rintro _ M8 ⟨rfl, f8, g8⟩
        show Go (Ct (d + 3)) _ yX2_doLine cX2_doLine (some .int) 0 0 115 [some (.ref 29), some (.int (iI ((i : Nat) : Int)))] [] M8
        refine r_goto (tgt := 171) dX2_doLine_115 (by decide) ?_
        refine r_iconst (pc2 := 172) dX2_doLine_171 rfl ?_
        refine r_ireti dX2_doLine_172 rfl ?_
        rw [en] at f8
        exact Or.inr (Or.inr ⟨by omega, _, _, n, _, _, _, _, _, fun rec => by rw [qL11 hA, en], rfl, hQ1.fg g8, f1.tr g8.c, by rw [g8.2.1 30 t (by unfold okG; omega)]; exact hF1.2.1, f8, hin, ⟨by omega, by omega, by omega⟩, hm, ⟨by omega, by omega, by omega, by omega⟩, by unfold dxN; omega, by unfold dxN; omega⟩)
      by_cases sw61_12 : (gA G i) = 12
      · refine r_tabIn (tgt := 118) dX2_doLine_61 ⟨by omega, by omega⟩ 2 (by omega) (by omega) rfl (by decide) ?_
        have hA : gA G i = 12 := by omega
        have hV := hLV.2.2.1 hA
        have hin := hf.inn hP hie (Or.inr hA)
        have ht2 : -24 ≤ tn m (2 * g1 G i) ∧ tn m (2 * g1 G i) ≤ 24 := by unfold tn; split <;> omega
        refine r_aload0 (pc2 := 119) dX2_doLine_118 rfl ?_
        refine r_iload1 (pc2 := 120) dX2_doLine_119 rfl ?_
        refine r_cv1 (pc2 := 123) dX2_doLine_120 rfl vX2_97 (hK_29 hS1) (by decide) (c_X2_beginMirror (d := d + 1) hS1 hG1 hP hi hF1 (by omega) hm hA) ?_
        rintro _ M8 ⟨rfl, f8, g8⟩
        show Go (Ct (d + 3)) _ yX2_doLine cX2_doLine (some .int) 0 0 123 [some (.ref 29), some (.int (iI ((i : Nat) : Int)))] [] M8
        refine r_goto (tgt := 171) dX2_doLine_123 (by decide) ?_
        refine r_iconst (pc2 := 172) dX2_doLine_171 rfl ?_
        refine r_ireti dX2_doLine_172 rfl ?_
        exact Or.inr (Or.inr ⟨by omega, _, _, 0, _, _, _, _, _, fun rec => by rw [qL12 hA, agn_1 hL9.2.1], rfl, hQ1.fg g8, f1.tr g8.c, by rw [g8.2.1 30 t (by unfold okG; omega)]; exact hF1.2.1, f8, hin, ⟨by omega, by omega, by omega⟩, by omega, ⟨by omega, by omega, by omega, by omega⟩, by unfold dxN; omega, by unfold dxN; omega⟩)
      by_cases sw61_13 : (gA G i) = 13
      · refine r_tabIn (tgt := 171) dX2_doLine_61 ⟨by omega, by omega⟩ 3 (by omega) (by omega) rfl (by decide) ?_
        have hA : gA G i = 13 := by omega
        refine r_iconst (pc2 := 172) dX2_doLine_171 rfl ?_
        refine r_ireti dX2_doLine_172 rfl ?_
        refine Or.inr (Or.inl ⟨by omega, qLd s, ix, fun rec => qL13 hA, ?_, hQ1, f1, hF1.1, hF1.2.1⟩)
        rw [hL9.2.1]
      by_cases sw61_14 : (gA G i) = 14
      · refine r_tabIn (tgt := 126) dX2_doLine_61 ⟨by omega, by omega⟩ 4 (by omega) (by omega) rfl (by decide) ?_
        have hA : gA G i = 14 := by omega
        have hV := (hLV.2.2.2.1 hA).2
        have hus := hf.us hP hie hA
        have hin := hus.1
        have hu2 := hus.2.1
        have hu3 := (hP.2.2.2.2 _ hu2).2.2.1
        clear hus
        have ht2 : -12 ≤ tn m (g2 G i) ∧ tn m (g2 G i) ≤ 12 := by unfold tn; split <;> omega
        refine r_aload0 (pc2 := 127) dX2_doLine_126 rfl ?_
        refine r_iload1 (pc2 := 128) dX2_doLine_127 rfl ?_
        refine r_cv1 (pc2 := 131) dX2_doLine_128 rfl vX2_100 (hK_29 hS1) (by decide) (c_X2_beginUse (d := d + 1) hS1 hG1 hP hi hF1 (by omega) hm hA) ?_
        rintro _ M8 ⟨rfl, f8, g8⟩
        show Go (Ct (d + 3)) _ yX2_doLine cX2_doLine (some .int) 0 0 131 [some (.ref 29), some (.int (iI ((i : Nat) : Int)))] [] M8
        refine r_goto (tgt := 171) dX2_doLine_131 (by decide) ?_
        refine r_iconst (pc2 := 172) dX2_doLine_171 rfl ?_
        refine r_ireti dX2_doLine_172 rfl ?_
        exact Or.inr (Or.inr ⟨by omega, _, _, 0, _, _, _, _, _, fun rec => by rw [qL14 hA, agn_1 hL9.2.1], rfl, hQ1.fg g8, f1.tr g8.c, by rw [g8.2.1 30 t (by unfold okG; omega)]; exact hF1.2.1, f8, hin, ⟨by omega, by omega, by omega⟩, hm, ⟨by omega, by omega, by omega, by omega⟩, by unfold dxN; omega, by unfold dxN; omega⟩)
      by_cases sw61_15 : (gA G i) = 15
      · refine r_tabIn (tgt := 134) dX2_doLine_61 ⟨by omega, by omega⟩ 5 (by omega) (by omega) rfl (by decide) ?_
        have hA : gA G i = 15 := by omega
        have hV := hLV.2.2.2.2.1 hA
        have hG7 := (hG1.2.2.2.1 i hi).2.2 (by omega)
        have e12 : M1.2.1 12 i = (((g1 G i).toNat : Nat) : Int) := by rw [hG7.1]; omega
        refine r_aload0 (pc2 := 135) dX2_doLine_134 rfl ?_
        refine r_getR (pc2 := 138) dX2_doLine_135 rfl fX2_47 (hK_29 hS1) (hR_29_1 hS1) ?_
        refine r_getR (pc2 := 141) dX2_doLine_138 rfl fX2_103 (hK_19 hS1) (hR_19_5 hS1) ?_
        refine r_aload0 (pc2 := 142) dX2_doLine_141 rfl ?_
        refine r_getR (pc2 := 145) dX2_doLine_142 rfl fX2_43 (hK_29 hS1) (hR_29_0 hS1) ?_
        refine r_getR (pc2 := 148) dX2_doLine_145 rfl fX2_106 (hK_9 hS1) (hR_9_3 hS1) ?_
        refine r_iload1 (pc2 := 149) dX2_doLine_148 rfl ?_
        refine r_iald (z := (((g1 G i).toNat : Nat) : Int)) (pc2 := 150) dX2_doLine_149 rfl (hK_12 hS1) i rfl (by omega) e12 ?_
        refine r_aload0 (pc2 := 151) dX2_doLine_150 rfl ?_
        refine r_getR (pc2 := 154) dX2_doLine_151 rfl fX2_43 (hK_29 hS1) (hR_29_0 hS1) ?_
        refine r_getR (pc2 := 157) dX2_doLine_154 rfl fX2_109 (hK_9 hS1) (hR_9_4 hS1) ?_
        refine r_iload1 (pc2 := 158) dX2_doLine_157 rfl ?_
        refine r_iald (z := (g2 G i)) (pc2 := 159) dX2_doLine_158 rfl (hK_13 hS1) i rfl (by omega) hG7.2.1 ?_
        refine r_iast (z := (g2 G i)) (pc2 := 160) dX2_doLine_159 rfl (hK_25 hS1) (by decide) ((g1 G i).toNat) rfl (by omega) ?_
        refine r_goto (tgt := 171) dX2_doLine_160 (by decide) ?_
        refine r_iconst (pc2 := 172) dX2_doLine_171 rfl ?_
        refine r_ireti dX2_doLine_172 rfl ?_
        refine Or.inr (Or.inl ⟨by omega, _, ix, fun rec => qL15 hA, ?_, hQ1.lane, f1.I (by unfold okC; omega), ?_, ?_⟩)
        · show some (Value.int (iI 0)) = some (.int (iI (qLd s).2.2.2.2)); rw [hL9.2.1]
        · rw [pI_ne (by decide)]; exact hF1.1
        · rw [pI_ne (by decide)]; exact hF1.2.1
      by_cases sw61_16 : (gA G i) = 16
      · refine r_tabIn (tgt := 163) dX2_doLine_61 ⟨by omega, by omega⟩ 6 (by omega) (by omega) rfl (by decide) ?_
        have hA : gA G i = 16 := by omega
        refine r_aload0 (pc2 := 164) dX2_doLine_163 rfl ?_
        refine r_iload1 (pc2 := 165) dX2_doLine_164 rfl ?_
        refine r_cv1 (pc2 := 168) dX2_doLine_165 rfl vX2_112 (hK_29 hS1) (by decide) (c_X2_doHopper (d := d + 2) hS1 hG1 hP hi hA) ?_
        rintro _ M8 ⟨rfl, h8⟩
        rw [h8]
        show Go (Ct (d + 3)) _ yX2_doLine cX2_doLine (some .int) 0 0 168 [some (.ref 29), some (.int (iI ((i : Nat) : Int)))] [] (pI (pI (pI M1 26 (g1 G i).toNat (((g2 G i).toNat : Nat) : Int)) 27 (g1 G i).toNat (g3 G i)) 28 (g1 G i).toNat (g4 G i))
        refine r_goto (tgt := 171) dX2_doLine_168 (by decide) ?_
        refine r_iconst (pc2 := 172) dX2_doLine_171 rfl ?_
        refine r_ireti dX2_doLine_172 rfl ?_
        refine Or.inr (Or.inl ⟨by omega, _, ix, fun rec => qL16 hA, ?_, hQ1.hop, ((f1.I (by unfold okC; omega)).I (by unfold okC; omega)).I (by unfold okC; omega), ?_, ?_⟩)
        · show some (Value.int (iI 0)) = some (.int (iI (qLd s).2.2.2.2)); rw [hL9.2.1]
        · rw [pI_ne (by decide), pI_ne (by decide), pI_ne (by decide)]; exact hF1.1
        · rw [pI_ne (by decide), pI_ne (by decide), pI_ne (by decide)]; exact hF1.2.1
      refine r_tabOut (tgt := 171) dX2_doLine_61 ⟨by omega, by omega⟩ (by omega) (by decide) ?_
      refine r_iconst (pc2 := 172) dX2_doLine_171 rfl ?_
      refine r_ireti dX2_doLine_172 rfl ?_
      exact absurd hA9 (by omega)
    · refine r_iconst (pc2 := 33) dX2_doLine_32 rfl ?_
      refine r_ireti dX2_doLine_33 rfl ?_
      exact absurd b_29 (by omega)
