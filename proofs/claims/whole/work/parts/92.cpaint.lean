/-! the class's paint -/
set_option maxHeartbeats 4000000 in
theorem pt_out {d : Nat} {Q : pQ} {M : pM} {r z : Int} {turn : Nat} (hS : sOk M.1) (hr : ¬ r = 0) (hr2 : 0 ≤ r ∧ r ≤ 4) (ht : turn < 30000) (h12 : M.2.1 29 12 = z) (hz : -1 ≤ z ∧ z ≤ 200) (hQ : Q (some (.int (iI r))) M) : Go (Ct (d + 4)) Q yX2_paint cX2_paint (some .int) 0 0 32 [some (.ref 29), some (.int (iI r)), some (.int (iI ((turn : Nat) : Int)))] [] M := by
  refine r_iload2 (pc2 := 33) dX2_paint_32 rfl ?_
  refine r_sipush (pc2 := 36) dX2_paint_33 rfl (by decide) (by decide) ?_
  refine r_icge (tgt := 98) (pc2 := 39) dX2_paint_36 rfl (by decide) ⟨by omega, by omega⟩ ⟨by omega, by omega⟩ (fun b_36 => ?_) (fun b_36 => ?_)
  · refine r_iload1 (pc2 := 99) dX2_paint_98 rfl ?_
    refine r_ifne (tgt := 121) (pc2 := 102) dX2_paint_99 rfl (by decide) ⟨by omega, by omega⟩ (fun b_99 => ?_) (fun b_99 => ?_)
    · refine r_iload1 (pc2 := 122) dX2_paint_121 rfl ?_
      refine r_ireti dX2_paint_122 rfl ?_
      exact hQ
    · exact absurd b_99 (by omega)
  · refine r_aload0 (pc2 := 40) dX2_paint_39 rfl ?_
    refine r_getI (z := z) (pc2 := 43) dX2_paint_40 rfl (Or.inl fX2_51) (hK_29 hS) h12 ?_
    refine r_iflt (tgt := 98) (pc2 := 46) dX2_paint_43 rfl (by decide) ⟨by omega, by omega⟩ (fun b_43 => ?_) (fun b_43 => ?_)
    · refine r_iload1 (pc2 := 99) dX2_paint_98 rfl ?_
      refine r_ifne (tgt := 121) (pc2 := 102) dX2_paint_99 rfl (by decide) ⟨by omega, by omega⟩ (fun b_99 => ?_) (fun b_99 => ?_)
      · refine r_iload1 (pc2 := 122) dX2_paint_121 rfl ?_
        refine r_ireti dX2_paint_122 rfl ?_
        exact hQ
      · exact absurd b_99 (by omega)
    · refine r_iload1 (pc2 := 47) dX2_paint_46 rfl ?_
      refine r_ifne (tgt := 98) (pc2 := 50) dX2_paint_47 rfl (by decide) ⟨by omega, by omega⟩ (fun b_47 => ?_) (fun b_47 => ?_)
      · refine r_iload1 (pc2 := 99) dX2_paint_98 rfl ?_
        refine r_ifne (tgt := 121) (pc2 := 102) dX2_paint_99 rfl (by decide) ⟨by omega, by omega⟩ (fun b_99 => ?_) (fun b_99 => ?_)
        · refine r_iload1 (pc2 := 122) dX2_paint_121 rfl ?_
          refine r_ireti dX2_paint_122 rfl ?_
          exact hQ
        · exact absurd b_99 (by omega)
      · exact absurd b_47 (by omega)
theorem qLine_ld {G : gPr} {i : Nat} {m dx dy : Int} {s : qS} (hi : 0 ≤ i) (h0 : s.2.2.2.2 = 0) : (qLine G (fun _ _ _ _ _ s2 => s2) i m dx dy s).2.2.1 = s.2.2.1 := by
  have ha : ∀ n ax ay, agn (fun _ _ s => s) (tn m (g2 G i)) (g3 G i) n ax ay s = s := by
    intro n
    induction n with
    | zero => intro ax ay; rfl
    | succ n ih => intro ax ay; rw [agn, if_pos h0]; exact ih _ _
  unfold qLine
  dsimp only
  split
  · exact qPut_ld
  split
  · rw [ha]
  (repeat' split) <;> rfl
def pG0 (d : Nat) (Q : pQ) (M : pM) (turn : Nat) : Prop := Go (Ct (d + 4)) Q yX2_paint cX2_paint (some .int) 0 0 32 [some (.ref 29), some (.int (iI 0)), some (.int (iI ((turn : Nat) : Int)))] [] M
def PCp (G : gPr) (u ns : Nat → Nat) (d : Nat) (Q : pQ) (f : Nat) : Prop := ∀ (c i e t tl st W turn : Nat) (sx sy dx dy m : Int) (s : qS) (ix : Nat → Nat) (M : pM), sOk M.1 → CG M G → CQ M s ix → qOk2 s → s.2.2.2.2 = 0 → FT M t i st e tl sx sy dx dy m → frm G u ns i e c → (126 * c + (e - i) < f ∧ i ≤ 126 ∧ t + c ≤ 155) → (m = 0 ∨ m = 1) → dxB c dx → dxB c dy → turn + W + 13 * (2001 - s.2.2.1) ≤ 26014 →
  (∀ M2 ix2 turn2 i2, CQ M2 (dos G f i e m dx dy s) ix2 → (dos G f i e m dx dy s).2.2.2.2 = 0 → frC t M M2 → M2.2.1 29 12 = ((t : Nat) : Int) → M2.2.1 30 t = ((i2 : Nat) : Int) → e ≤ i2 → i2 ≤ 126 → turn2 + W + 13 * (2001 - (dos G f i e m dx dy s).2.2.1) ≤ 26014 → pG0 d Q M2 turn2) →
  (∀ M2 ix2, CQ M2 (dos G f i e m dx dy s) ix2 → ¬ (dos G f i e m dx dy s).2.2.2.2 = 0 → frC t M M2 → Q (some (.int (iI (dos G f i e m dx dy s).2.2.2.2))) M2) → pG0 d Q M turn
set_option maxHeartbeats 4000000 in
theorem pt_end {d : Nat} {Q : pQ} {M : pM} {t i st e tl turn : Nat} {sx sy dx dy m : Int} (hS : sOk M.1) (hF : FT M (t + 1) i st e (tl + 1) sx sy dx dy m) (ht : t < 155) (htl : tl ≤ 12) (hie : e ≤ i) (hi : i ≤ 200) (htu : turn < 28014)
    (h1 : ∀ M2, 0 < tl → FT M2 (t + 1) st st e tl sx sy (dx + sx) (dy + sy) m → frG t M M2 → pG0 d Q M2 (turn + 1)) (h2 : ∀ M2, tl = 0 → M2.2.1 29 12 = ((t : Nat) : Int) → frG t M M2 → pG0 d Q M2 (turn + 1)) : pG0 d Q M turn := by
  unfold pG0
  have he9 : e ≤ 200 := by omega
  refine r_iload2 (pc2 := 33) dX2_paint_32 rfl ?_
  refine r_sipush (pc2 := 36) dX2_paint_33 rfl (by decide) (by decide) ?_
  refine r_icge (tgt := 98) (pc2 := 39) dX2_paint_36 rfl (by decide) ⟨by omega, by omega⟩ ⟨by omega, by omega⟩ (fun b_36 => ?_) (fun b_36 => ?_)
  · exact absurd b_36 (by omega)
  · refine r_aload0 (pc2 := 40) dX2_paint_39 rfl ?_
    refine r_getI (z := ((t + 1 : Nat) : Int)) (pc2 := 43) dX2_paint_40 rfl (Or.inl fX2_51) (hK_29 hS) hF.1 ?_
    refine r_iflt (tgt := 98) (pc2 := 46) dX2_paint_43 rfl (by decide) ⟨by omega, by omega⟩ (fun b_43 => ?_) (fun b_43 => ?_)
    · exact absurd b_43 (by omega)
    · refine r_iload1 (pc2 := 47) dX2_paint_46 rfl ?_
      refine r_ifne (tgt := 98) (pc2 := 50) dX2_paint_47 rfl (by decide) ⟨by omega, by omega⟩ (fun h9 => absurd h9 (by decide)) (fun _ => ?_)
      refine r_aload0 (pc2 := 51) dX2_paint_50 rfl ?_
      refine r_getR (pc2 := 54) dX2_paint_51 rfl fX2_11 (hK_29 hS) (hR_29_2 hS) ?_
      refine r_aload0 (pc2 := 55) dX2_paint_54 rfl ?_
      refine r_getI (z := ((t + 1 : Nat) : Int)) (pc2 := 58) dX2_paint_55 rfl (Or.inl fX2_51) (hK_29 hS) hF.1 ?_
      refine r_iald (z := ((i : Nat) : Int)) (pc2 := 59) dX2_paint_58 rfl (hK_30 hS) (t + 1) rfl (by omega) hF.2.1 ?_
      refine r_aload0 (pc2 := 60) dX2_paint_59 rfl ?_
      refine r_getR (pc2 := 63) dX2_paint_60 rfl fX2_18 (hK_29 hS) (hR_29_4 hS) ?_
      refine r_aload0 (pc2 := 64) dX2_paint_63 rfl ?_
      refine r_getI (z := ((t + 1 : Nat) : Int)) (pc2 := 67) dX2_paint_64 rfl (Or.inl fX2_51) (hK_29 hS) hF.1 ?_
      refine r_iald (z := ((e : Nat) : Int)) (pc2 := 68) dX2_paint_67 rfl (hK_32 hS) (t + 1) rfl (by omega) hF.2.2.2.1 ?_
      refine r_iclt (tgt := 78) (pc2 := 71) dX2_paint_68 rfl (by decide) ⟨by omega, by omega⟩ ⟨by omega, by omega⟩ (fun b_68 => ?_) (fun b_68 => ?_)
      · exact absurd b_68 (by omega)
      · refine r_aload0 (pc2 := 72) dX2_paint_71 rfl ?_
        refine r_cv0 (pc2 := 75) dX2_paint_72 rfl vX2_70 (hK_29 hS) (by decide) (c_X2_endTime (d := d + 3) hS hF ht htl) ?_
        by_cases h0 : 0 < tl
        · rintro _ M8 ⟨rfl, q⟩
          rw [if_pos h0] at q
          show Go (Ct (d + 4)) _ yX2_paint cX2_paint (some .int) 0 0 75 [some (.ref 29), some (.int (iI 0)), some (.int (iI ((turn : Nat) : Int)))] [] M8
          refine r_goto (tgt := 92) dX2_paint_75 (by decide) ?_
          refine r_iinc2 (z := ((turn + 1 : Nat) : Int)) (pc2 := 95) dX2_paint_92 rfl (by omega) rfl ?_
          refine r_goto (tgt := 32) dX2_paint_95 (by decide) ?_
          exact h1 M8 h0 q.1 q.2
        · rintro _ M8 ⟨rfl, q⟩
          rw [if_neg h0] at q
          show Go (Ct (d + 4)) _ yX2_paint cX2_paint (some .int) 0 0 75 [some (.ref 29), some (.int (iI 0)), some (.int (iI ((turn : Nat) : Int)))] [] M8
          refine r_goto (tgt := 92) dX2_paint_75 (by decide) ?_
          refine r_iinc2 (z := ((turn + 1 : Nat) : Int)) (pc2 := 95) dX2_paint_92 rfl (by omega) rfl ?_
          refine r_goto (tgt := 32) dX2_paint_95 (by decide) ?_
          exact h2 M8 (by omega) q.1 q.2
theorem pt_in {G : gPr} {u ns : Nat → Nat} {d : Nat} {Q : pQ} {f : Nat} (hP : PV G u ns) (hR : PCp G u ns d Q f) (c a b t : Nat) (SX SY m : Int) (hfr : frm G u ns a b c) (hms : 126 * c + (b - a) < f ∧ a ≤ 126 ∧ t + 1 + c ≤ 155) (hb : b ≤ gS G) (hm : m = 0 ∨ m = 1) (hSX : -12 ≤ SX ∧ SX ≤ 12 ∧ -12 ≤ SY ∧ SY ≤ 12) (W : Nat) :
    ∀ (n turn : Nat) (ax ay : Int) (s : qS) (ix : Nat → Nat) (M : pM), sOk M.1 → CG M G → CQ M s ix → qOk2 s → s.2.2.2.2 = 0 → FT M (t + 1) a a b (n + 1) SX SY ax ay m → n ≤ 12 → dxN c (n + 1) ax → dxN c (n + 1) ay → turn + (W + (n + 1)) + 13 * (2001 - s.2.2.1) ≤ 26014 →
      (∀ M2 ix2 turn2, CQ M2 (agn (fun ax ay s => dos G f a b m ax ay s) SX SY (n + 1) ax ay s) ix2 → (agn (fun ax ay s => dos G f a b m ax ay s) SX SY (n + 1) ax ay s).2.2.2.2 = 0 → frC t M M2 → M2.2.1 29 12 = ((t : Nat) : Int) → M2.2.1 30 t = M.2.1 30 t → turn2 + W + 13 * (2001 - (agn (fun ax ay s => dos G f a b m ax ay s) SX SY (n + 1) ax ay s).2.2.1) ≤ 26014 → pG0 d Q M2 turn2) →
      (∀ M2 ix2, CQ M2 (agn (fun ax ay s => dos G f a b m ax ay s) SX SY (n + 1) ax ay s) ix2 → ¬ (agn (fun ax ay s => dos G f a b m ax ay s) SX SY (n + 1) ax ay s).2.2.2.2 = 0 → frC t M M2 → Q (some (.int (iI (agn (fun ax ay s => dos G f a b m ax ay s) SX SY (n + 1) ax ay s).2.2.2.2))) M2) → pG0 d Q M turn := by
  intro n
  induction n with
  | zero =>
    intro turn ax ay s ix M hS hG hQ ho h0 hF hn hax hay htu hK hX
    rw [agn_1 h0] at hK hX
    unfold dxN at hax hay
    refine hR c a b (t + 1) 1 a (W + 1) turn SX SY ax ay m s ix M hS hG hQ ho h0 hF hfr hms hm (by unfold dxB; omega) (by unfold dxB; omega) htu (fun M2 ix2 turn2 i2 q1 q2 q3 q4 q5 q6 q7 q8 => ?_) (fun M2 ix2 q1 q2 q3 => hX M2 ix2 q1 q2 q3.up)
    refine pt_end (tl := 0) (q3.ok hS) (hF.fc q3 q4 q5) (by omega) (by omega) q6 (by omega) (by omega) (fun M3 w => absurd w (by omega)) (fun M3 _ w1 w2 => ?_)
    refine hK M3 ix2 (turn2 + 1) (q1.fg w2) q2 (q3.up.tr w2.c) w1 ?_ (by omega)
    rw [w2.2.1 30 t (by unfold okG; omega), q3.2.1 30 t (by unfold okC; omega)]
  | succ n ih =>
    intro turn ax ay s ix M hS hG hQ ho h0 hF hn hax hay htu hK hX
    rw [agn, if_pos h0] at hK hX
    unfold dxN at hax hay
    have hd2 := dos_ok hP f a b m ax ay s hb ho
    refine hR c a b (t + 1) (n + 2) a (W + (n + 2)) turn SX SY ax ay m s ix M hS hG hQ ho h0 hF hfr hms hm (by unfold dxB; omega) (by unfold dxB; omega) htu (fun M2 ix2 turn2 i2 q1 q2 q3 q4 q5 q6 q7 q8 => ?_) (fun M2 ix2 q1 q2 q3 => ?_)
    · refine pt_end (tl := n + 1) (q3.ok hS) (hF.fc q3 q4 q5) (by omega) (by omega) q6 (by omega) (by omega) (fun M3 _ w1 w2 => ?_) (fun M3 w => absurd w (by omega))
      have f3 : frC t M M3 := q3.up.tr w2.c
      have e30 : M3.2.1 30 t = M.2.1 30 t := by rw [w2.2.1 30 t (by unfold okG; omega), q3.2.1 30 t (by unfold okC; omega)]
      exact ih (turn2 + 1) (ax + SX) (ay + SY) _ ix2 M3 (f3.ok hS) (hG.fc f3) (q1.fg w2) hd2 q2 w1 (by omega) (by unfold dxN; omega) (by unfold dxN; omega) (by omega) (fun M4 ix4 turn4 r1 r2 r3 r4 r5 r6 => hK M4 ix4 turn4 r1 r2 (f3.tr r3) r4 (r5.trans e30) r6) (fun M4 ix4 r1 r2 r3 => hX M4 ix4 r1 r2 (f3.tr r3))
    · have e9 : agn (fun ax ay s => dos G f a b m ax ay s) SX SY (n + 1) (ax + SX) (ay + SY) (dos G f a b m ax ay s) = dos G f a b m ax ay s := agn_re q2 _
      have := hX M2 ix2
      rw [e9] at this
      exact this q1 q2 q3.up
set_option maxHeartbeats 4000000 in
theorem pt_all {G : gPr} {u ns : Nat → Nat} {d : Nat} {Q : pQ} (hP : PV G u ns) : ∀ f, PCp G u ns d Q f := by
  intro f
  induction f with
  | zero => intro c i e t tl st W turn sx sy dx dy m s ix M hS hG hQ ho h0 hF hf hm; exact absurd hm.1 (by omega)
  | succ f ih =>
    intro c i e t tl st W turn sx sy dx dy m s ix M hS hG hQ ho h0 hF hf hms hm hdx hdy htu hK hX
    by_cases hie : i < e
    · cases c with
      | zero => exact absurd (kap_p hP (show i < gS G by have := hf.1; omega)).1 (by have := (hf.2.1 i (Nat.le_refl _) hie).2; omega)
      | succ c =>
        have he := hf.1
        have h125 := hP.1.1
        have hl := hP.2.2.2.2 i (by omega)
        have hl1 := hl.2.1
        have hl2 := hl.2.2.1
        have hnx := hf.nx hP hie
        have hld := ho.2 h0
        have hL9 := qLd_ok ho h0
        show Go (Ct (d + 4)) Q yX2_paint cX2_paint (some .int) 0 0 32 [some (.ref 29), some (.int (iI 0)), some (.int (iI ((turn : Nat) : Int)))] [] M
        refine r_iload2 (pc2 := 33) dX2_paint_32 rfl ?_
        refine r_sipush (pc2 := 36) dX2_paint_33 rfl (by decide) (by decide) ?_
        refine r_icge (tgt := 98) (pc2 := 39) dX2_paint_36 rfl (by decide) ⟨by omega, by omega⟩ ⟨by omega, by omega⟩ (fun b_36 => ?_) (fun b_36 => ?_)
        · exact absurd b_36 (by omega)
        · refine r_aload0 (pc2 := 40) dX2_paint_39 rfl ?_
          refine r_getI (z := ((t : Nat) : Int)) (pc2 := 43) dX2_paint_40 rfl (Or.inl fX2_51) (hK_29 hS) hF.1 ?_
          refine r_iflt (tgt := 98) (pc2 := 46) dX2_paint_43 rfl (by decide) ⟨by omega, by omega⟩ (fun b_43 => ?_) (fun b_43 => ?_)
          · exact absurd b_43 (by omega)
          · refine r_iload1 (pc2 := 47) dX2_paint_46 rfl ?_
            refine r_ifne (tgt := 98) (pc2 := 50) dX2_paint_47 rfl (by decide) ⟨by omega, by omega⟩ (fun h9 => absurd h9 (by decide)) (fun _ => ?_)
            refine r_aload0 (pc2 := 51) dX2_paint_50 rfl ?_
            refine r_getR (pc2 := 54) dX2_paint_51 rfl fX2_11 (hK_29 hS) (hR_29_2 hS) ?_
            refine r_aload0 (pc2 := 55) dX2_paint_54 rfl ?_
            refine r_getI (z := ((t : Nat) : Int)) (pc2 := 58) dX2_paint_55 rfl (Or.inl fX2_51) (hK_29 hS) hF.1 ?_
            refine r_iald (z := ((i : Nat) : Int)) (pc2 := 59) dX2_paint_58 rfl (hK_30 hS) t rfl (by omega) hF.2.1 ?_
            refine r_aload0 (pc2 := 60) dX2_paint_59 rfl ?_
            refine r_getR (pc2 := 63) dX2_paint_60 rfl fX2_18 (hK_29 hS) (hR_29_4 hS) ?_
            refine r_aload0 (pc2 := 64) dX2_paint_63 rfl ?_
            refine r_getI (z := ((t : Nat) : Int)) (pc2 := 67) dX2_paint_64 rfl (Or.inl fX2_51) (hK_29 hS) hF.1 ?_
            refine r_iald (z := ((e : Nat) : Int)) (pc2 := 68) dX2_paint_67 rfl (hK_32 hS) t rfl (by omega) hF.2.2.2.1 ?_
            refine r_iclt (tgt := 78) (pc2 := 71) dX2_paint_68 rfl (by decide) ⟨by omega, by omega⟩ ⟨by omega, by omega⟩ (fun b_68 => ?_) (fun b_68 => ?_)
            · refine r_aload0 (pc2 := 79) dX2_paint_78 rfl ?_
              refine r_aload0 (pc2 := 80) dX2_paint_79 rfl ?_
              refine r_getR (pc2 := 83) dX2_paint_80 rfl fX2_11 (hK_29 hS) (hR_29_2 hS) ?_
              refine r_aload0 (pc2 := 84) dX2_paint_83 rfl ?_
              refine r_getI (z := ((t : Nat) : Int)) (pc2 := 87) dX2_paint_84 rfl (Or.inl fX2_51) (hK_29 hS) hF.1 ?_
              refine r_iald (z := ((i : Nat) : Int)) (pc2 := 88) dX2_paint_87 rfl (hK_30 hS) t rfl (by omega) hF.2.1 ?_
              refine r_cv1 (pc2 := 91) dX2_paint_88 rfl vX2_73 (hK_29 hS) (by decide) (c_X2_doLine (d := d) hS hG hP hf hie hF (by omega) hm hQ ho h0 hdx hdy) ?_
              rintro v M8 (⟨c1, rfl, c3, c4, c5⟩ | ⟨c1, s2, ix2, c2, rfl, c3, c4, c5, c6⟩ | ⟨c1, a, b, n, SX, SY, ax, ay, m2, c2, rfl, c3, c4, c5, c6, c7, c8, c9, c10, c11, c12⟩)
              · skip
                show Go (Ct (d + 4)) _ yX2_paint cX2_paint (some .int) 0 0 91 [some (.ref 29), some (.int (iI 0)), some (.int (iI ((turn : Nat) : Int)))] [.int (iI 4)] M8
                refine r_istore1 (pc2 := 92) dX2_paint_91 rfl rfl ?_
                refine r_iinc2 (z := ((turn + 1 : Nat) : Int)) (pc2 := 95) dX2_paint_92 rfl (by omega) rfl ?_
                refine r_goto (tgt := 32) dX2_paint_95 (by decide) ?_
                rw [dos_4 hie h0 c1] at hX
                exact pt_out (c4.ok hS) (by decide) (by decide) (by omega) c5 ⟨by omega, by omega⟩ (hX M8 ix c3 (by show ¬ (4 : Int) = 0; decide) c4)
              · skip
                show Go (Ct (d + 4)) _ yX2_paint cX2_paint (some .int) 0 0 91 [some (.ref 29), some (.int (iI 0)), some (.int (iI ((turn : Nat) : Int)))] [.int (iI s2.2.2.2.2)] M8
                refine r_istore1 (pc2 := 92) dX2_paint_91 rfl rfl ?_
                refine r_iinc2 (z := ((turn + 1 : Nat) : Int)) (pc2 := 95) dX2_paint_92 rfl (by omega) rfl ?_
                refine r_goto (tgt := 32) dX2_paint_95 (by decide) ?_
                have e9 := dos_y (G := G) (m := m) (dx := dx) (dy := dy) (f := f) hie h0 c1
                rw [c2] at e9
                have ok2 : qOk2 s2 := by rw [← c2 (fun a b m2 ax ay s2 => dos G f a b m2 ax ay s2)]; exact qLine_ok hP (by omega) (fun a b m ax ay s hb hs => dos_ok hP f a b m ax ay s hb hs) hL9.1 hL9.2.1 (by show s.2.2.1 + 1 ≤ 2000; omega) hL9.2.2
                have ok3 := ok2.1.2.2.2.2
                by_cases hr : s2.2.2.2.2 = 0
                · rw [hr]
                  have el : s2.2.2.1 = s.2.2.1 + 1 := by rw [← c2 (fun a b m2 ax ay s2 => s2)]; exact qLine_ld (by omega) hL9.2.1
                  refine ih (c + 1) (gE G i).toNat e t tl st W (turn + 1) sx sy dx dy m s2 ix2 M8 (c4.ok hS) (hG.fc c4) c3 ok2 hr (hF.fc c4 c5 c6) hnx.1 ⟨by omega, by omega, by omega⟩ hm hdx hdy (by omega) (fun M2 ix3 turn2 i2 q1 q2 q3 q4 q5 q6 q7 q8 => ?_) (fun M2 ix3 q1 q2 q3 => ?_)
                  · rw [← e9] at q1 q2 q8; exact hK M2 ix3 turn2 i2 q1 q2 (c4.tr q3) q4 q5 q6 q7 q8
                  · rw [← e9] at q1 q2 ⊢; exact hX M2 ix3 q1 q2 (c4.tr q3)
                · rw [dos_re hr] at e9
                  rw [e9] at hX
                  exact pt_out (c4.ok hS) hr ok3 (by omega) c5 ⟨by omega, by omega⟩ (hX M8 ix2 c3 hr c4)
              · skip
                show Go (Ct (d + 4)) _ yX2_paint cX2_paint (some .int) 0 0 91 [some (.ref 29), some (.int (iI 0)), some (.int (iI ((turn : Nat) : Int)))] [.int (iI 0)] M8
                refine r_istore1 (pc2 := 92) dX2_paint_91 rfl rfl ?_
                refine r_iinc2 (z := ((turn + 1 : Nat) : Int)) (pc2 := 95) dX2_paint_92 rfl (by omega) rfl ?_
                refine r_goto (tgt := 32) dX2_paint_95 (by decide) ?_
                have e9 := dos_y (G := G) (m := m) (dx := dx) (dy := dy) (f := f) hie h0 c1
                rw [c2] at e9
                have okL : qOk2 (qLd s) := ⟨hL9.1, fun _ => by show s.2.2.1 + 1 ≤ 2000; omega⟩
                have eld : (qLd s).2.2.1 = s.2.2.1 + 1 := rfl
                have okA := agn_ok (f := fun ax ay s => dos G f a b m2 ax ay s) (sx := SX) (sy := SY) (fun ax ay s hs => dos_ok hP f a b m2 ax ay s c7.1 hs) (n + 1) ax ay (qLd s) okL
                refine pt_in hP ih c a b t SX SY m2 c7 ⟨by omega, by omega, by omega⟩ c7.1 c9 c10 W n (turn + 1) ax ay (qLd s) ix M8 (c4.ok hS) (hG.fc c4) c3 okL hL9.2.1 c6 (by omega) c11 c12 (by omega) (fun M2 ix3 turn2 q1 q2 q3 q4 q5 q6 => ?_) (fun M2 ix3 q1 q2 q3 => ?_)
                · have f3 : frC t M M2 := c4.tr q3
                  refine ih (c + 1) (gE G i).toNat e t tl st W turn2 sx sy dx dy m _ ix3 M2 (f3.ok hS) (hG.fc f3) q1 okA q2 (hF.fc f3 q4 (q5.trans c5)) hnx.1 ⟨by omega, by omega, by omega⟩ hm hdx hdy q6 (fun M4 ix4 turn4 i4 r1 r2 r3 r4 r5 r6 r7 r8 => ?_) (fun M4 ix4 r1 r2 r3 => ?_)
                  · rw [← e9] at r1 r2 r8; exact hK M4 ix4 turn4 i4 r1 r2 (f3.tr r3) r4 r5 r6 r7 r8
                  · rw [← e9] at r1 r2 ⊢; exact hX M4 ix4 r1 r2 (f3.tr r3)
                · rw [dos_re q2] at e9
                  rw [e9] at hX
                  exact hX M2 ix3 q1 q2 (c4.tr q3)
            · exact absurd b_68 (by omega)
    · have e9 := dos_n (G := G) (f := f) (m := m) (dx := dx) (dy := dy) (s := s) (show ¬ (i < e ∧ s.2.2.2.2 = 0) from fun q => hie q.1)
      rw [e9] at hK
      exact hK M ix turn i hQ h0 frC.rf hF.1 hF.2.1 (by omega) hms.2.1 htu
