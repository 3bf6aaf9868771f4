/-! round, both sides -/
def rdA (X : bS) (h : Nat) (a b : Int) : Prop := rnd (stp X.1.1.1 X.1.1.2 (bT X.1) X.1.2.1 X.1.2.2.1 X.1.2.2.2.1) 4001 0 (fun _ => (X.2, h)) (X.2, h) a b
theorem rdA.det {X : bS} {h : Nat} {a b a2 b2 : Int} (h1 : rdA X h a b) (h2 : rdA X h a2 b2) : a = a2 ∧ b = b2 := rnd_det 4001 0 _ _ a b a2 b2 (fun i j hi => absurd hi (by omega)) h1 h2
def CRd (M : pM) (X : bS) : Prop := M.2.1 263 0 = -1 ∨ ∃ h : Nat, h < 4 ∧ M.2.1 263 0 = (h : Int) ∧ rdA X h (M.2.1 263 1) (M.2.1 263 2)
def frY (M M2 : pM) : Prop := fr [19, 256, 257, 258, 259, 260, 261, 262, 263] M M2 ∧ M2.2.1 19 = M.2.1 19 ∧ ∀ k, k ≠ 12 → M2.2.2 19 k = M.2.2 19 k
set_option maxHeartbeats 4000000 in
theorem c_X11_roundN {d : Nat} {M : pM} {z w : Int} (hS : sOk M.1) (hz : ¬ ((0 ≤ z ∧ z < 4) ∧ 0 ≤ w ∧ w ≤ 1)) (hzr : inR z) (hwr : inR w) : Ct (d + 2) 0 0 yX11_round [.ref 2, .int (iI z), .int (iI w)] M (fun v M2 => v = some (.int (iI (-1))) ∧ M2 = M) := by
  refine ct_in (d := (d + 1)) kX11_round rfl (by decide) (Nat.le_of_ble_eq_true rfl) (by decide) ?_
  show Go (Ct (d + 1)) _ yX11_round cX11_round (some .int) 0 0 0 [some (.ref 2), some (.int (iI z)), some (.int (iI w))] [] M
  obtain ⟨zr1, zr2⟩ := hzr
  obtain ⟨nr1, nr2⟩ := hwr
  refine r_iload1 (pc2 := 1) dX11_round_0 rfl ?_
  refine r_cs1 (pc2 := 4) dX11_round_1 rfl sX11_155 (by decide) (c_X11_isHopper (d := d) (h := z) ⟨by omega, by omega⟩) ?_
  by_cases hh : 0 ≤ z ∧ z < 4
  · rintro _ M9 ⟨rfl, h9⟩
    rw [h9, if_pos hh]
    show Go (Ct (d + 1)) _ yX11_round cX11_round (some .int) 0 0 4 [some (.ref 2), some (.int (iI z)), some (.int (iI w))] [.int (iI 1)] M
    refine r_ifeq (tgt := 16) (pc2 := 7) dX11_round_4 rfl (by decide) ⟨by omega, by omega⟩ (fun h9 => absurd h9 (by decide)) (fun _ => ?_)
    refine r_iload2 (pc2 := 8) dX11_round_7 rfl ?_
    refine r_iflt (tgt := 16) (pc2 := 11) dX11_round_8 rfl (by decide) ⟨by omega, by omega⟩ (fun b_8 => ?_) (fun b_8 => ?_)
    · refine r_iconst (pc2 := 17) dX11_round_16 rfl ?_
      refine r_ireti dX11_round_17 rfl ?_
      exact ⟨rfl, rfl⟩
    · refine r_iload2 (pc2 := 12) dX11_round_11 rfl ?_
      refine r_iconst (pc2 := 13) dX11_round_12 rfl ?_
      refine r_icle (tgt := 18) (pc2 := 16) dX11_round_13 rfl (by decide) ⟨by omega, by omega⟩ ⟨by omega, by omega⟩ (fun b_13 => ?_) (fun b_13 => ?_)
      · exact absurd ⟨hh, by omega, by omega⟩ hz
      · refine r_iconst (pc2 := 17) dX11_round_16 rfl ?_
        refine r_ireti dX11_round_17 rfl ?_
        exact ⟨rfl, rfl⟩
  · rintro _ M9 ⟨rfl, h9⟩
    rw [h9, if_neg hh]
    show Go (Ct (d + 1)) _ yX11_round cX11_round (some .int) 0 0 4 [some (.ref 2), some (.int (iI z)), some (.int (iI w))] [.int (iI 0)] M
    refine r_ifeq (tgt := 16) (pc2 := 7) dX11_round_4 rfl (by decide) ⟨by omega, by omega⟩ (fun _ => ?_) (fun h9 => absurd h9 (by decide))
    refine r_iconst (pc2 := 17) dX11_round_16 rfl ?_
    refine r_ireti dX11_round_17 rfl ?_
    exact ⟨rfl, rfl⟩
set_option maxHeartbeats 4000000 in
theorem c_X5_look2 {d : Nat} {M : pM} {h : Nat} {v : Int64} {pc sz tr sh kd lv : Nat → Int} {co ix : Nat → Nat} (hS : sOk M.1) (hB : cBd M 19 pc sz tr ix) (htr : ∀ p, p < 156 → -1 ≤ tr p) (hkd : ∀ h, h < 4 → M.2.1 27 h = kd h ∧ inR (kd h)) (hco : ∀ h, h < 4 → M.2.1 26 h = ((co h : Nat) : Int) ∧ co h < 13) (hlv : ∀ x, x < 13 → M.2.1 25 x = lv x ∧ -1 ≤ lv x ∧ lv x < 4) (hh : h < 4) (hv : M.2.2 19 11 = v) (hE : BE pc ix v sh) (hk : Ksh pc sz sh) (hSr : SNr M) (hkn : inR (M.2.1 263 0)) : Ct (d + 4) 0 0 yX5_look [.ref 263, .ref 19, .int (iI ((h : Nat) : Int)), .ref 256] M (fun v_ M2 => v_ = none ∧ ((M.2.1 263 0 = (h : Int) ∧ M2 = M) ∨ (M.2.1 263 0 ≠ (h : Int) ∧ ∃ a b, rnd (stp pc sz tr kd co lv) 4001 0 (fun _ => (sh, h)) (sh, h) a b ∧ M2.2.1 263 1 = a ∧ M2.2.1 263 2 = b ∧ M2.2.1 263 0 = (h : Int) ∧ fr [19, 256, 257, 258, 259, 260, 261, 262, 263] M M2 ∧ M2.2.1 19 = M.2.1 19 ∧ (∀ k, k ≠ 12 → M2.2.2 19 k = M.2.2 19 k) ∧ SNr M2))) := by
  refine ct_in (d := (d + 3)) kX5_look rfl (by decide) (Nat.le_of_ble_eq_true rfl) (by decide) ?_
  show Go (Ct (d + 3)) _ yX5_look cX5_look none 0 0 0 [some (.ref 263), some (.ref 19), some (.int (iI ((h : Nat) : Int))), some (.ref 256), none, none, none, none, none, none] [] M
  obtain ⟨kn1, kn2⟩ := hkn
  refine r_aload0 (pc2 := 1) dX5_look_0 rfl ?_
  refine r_getI (z := (M.2.1 263 0)) (pc2 := 4) dX5_look_1 rfl (Or.inl fX5_9) (hK_263 hS) rfl ?_
  refine r_iload2 (pc2 := 5) dX5_look_4 rfl ?_
  refine r_icne (tgt := 9) (pc2 := 8) dX5_look_5 rfl (by decide) ⟨by omega, by omega⟩ ⟨by omega, by omega⟩ (fun b_5 => ?_) (fun b_5 => ?_)
  · refine r_aload0 (pc2 := 10) dX5_look_9 rfl ?_
    refine r_iload2 (pc2 := 11) dX5_look_10 rfl ?_
    refine r_putI (z := ((h : Nat) : Int)) (pc2 := 14) dX5_look_11 rfl fX5_9 (w5_0 _) (hK_263 hS) (by decide) ?_
    refine r_aload0 (pc2 := 15) dX5_look_14 rfl ?_
    refine r_iconst (pc2 := 16) dX5_look_15 rfl ?_
    refine r_putI (z := (-1)) (pc2 := 19) dX5_look_16 rfl fX5_15 (w5_1 _) (hK_263 hS) (by decide) ?_
    refine r_aload0 (pc2 := 20) dX5_look_19 rfl ?_
    refine r_iconst (pc2 := 21) dX5_look_20 rfl ?_
    refine r_putI (z := (-1)) (pc2 := 24) dX5_look_21 rfl fX5_18 (w5_2 _) (hK_263 hS) (by decide) ?_
    refine r_aload3 (pc2 := 25) dX5_look_24 rfl ?_
    refine r_sipush (pc2 := 28) dX5_look_25 rfl (by decide) (by decide) ?_
    refine r_cv1 (pc2 := 31) dX5_look_28 rfl vX5_21 (hK_256 hS) (by decide) (c_X6_begin (d := d + 1) (z := 4000) hS ⟨by omega, by omega⟩) ?_
    rintro _ M9 ⟨rfl, h9⟩
    rw [h9]
    show Go (Ct (d + 3)) _ yX5_look cX5_look none 0 0 31 [some (.ref 263), some (.ref 19), some (.int (iI ((h : Nat) : Int))), some (.ref 256), none, none, none, none, none, none] [] (pI (pI (pI (pI (pI M 263 0 ((h : Nat) : Int)) 263 1 (-1)) 263 2 (-1)) 256 6 0) 256 7 4000)
    refine r_aload1 (pc2 := 32) dX5_look_31 rfl ?_
    refine r_getJ (z := v) (pc2 := 35) dX5_look_32 rfl fX5_27 (hK_19 hS) hv ?_
    refine r_lstore4 (pc2 := 37) dX5_look_35 rfl rfl ?_
    refine r_iload2 (pc2 := 38) dX5_look_37 rfl ?_
    refine r_istore6 (pc2 := 40) dX5_look_38 rfl rfl ?_
    refine r_iconst (pc2 := 41) dX5_look_40 rfl ?_
    refine r_istore7 (pc2 := 43) dX5_look_41 rfl rfl ?_
    refine lp_X5_look (d := d) (R := fun a b => rnd (stp pc sz tr kd co lv) 4001 0 (fun _ => (sh, h)) (sh, h) a b) (pI (pI (pI (pI (pI M 263 0 ((h : Nat) : Int)) 263 1 (-1)) 263 2 (-1)) 256 6 0) 256 7 4000) hS hB htr hkd hco hlv ⟨rfl, rfl⟩ (fun M3 M2 n A B a b hr hf hN hM => ⟨rfl, Or.inr ⟨by omega, a, b, hr, ?_⟩⟩) 4001 0 (sh, h) (fun _ => (sh, h)) (fun _ => 0) (fun _ => 0) v _ _ _ (by omega) frS.rf (SN.start (M := (pI (pI (pI M 263 0 ((h : Nat) : Int)) 263 1 (-1)) 263 2 (-1))) hSr.1 hSr.2) rfl (fun i hi => by omega) ⟨hE, rfl, hh, hk⟩ (fun a b h9 => h9)
    have hf0 : fr [19, 256, 257, 258, 259, 260, 261, 262, 263] M (pI (pI (pI (pI (pI M 263 0 ((h : Nat) : Int)) 263 1 (-1)) 263 2 (-1)) 256 6 0) 256 7 4000) := (((((fr.rf).I (by decide)).I (by decide)).I (by decide)).I (by decide)).I (by decide)
    have hf3 : fr [19, 256, 257, 258, 259, 260, 261, 262, 263] M M3 := hf0.tr (hf.1.mono (by decide))
    have e263 : M3.2.1 263 = va_up (va_up (va_up (M.2.1 263) 0 ((h : Nat) : Int)) 1 (-1)) 2 (-1) := by rw [hf.1.i (by decide)]; rfl
    have e19 := hf.2 19 (by decide)
    rcases hM with ⟨rfl, rfl, rfl⟩ | rfl
    · refine ⟨by rw [e263]; rfl, by rw [e263]; rfl, by rw [e263]; rfl, hf3, e19.1, e19.2, hN.r⟩
    · refine ⟨rfl, rfl, ?_, (hf3.I (by decide)).I (by decide), e19.1, e19.2, hN.r⟩
      show va_up (va_up (M3.2.1 263) 1 a) 2 b 0 = _
      rw [up_ne (by decide), up_ne (by decide), e263]; rfl
  · refine r_ret dX5_look_8 rfl ?_
    exact ⟨rfl, Or.inl ⟨by omega, rfl⟩⟩
set_option maxHeartbeats 4000000 in
theorem c_X11_roundY {d : Nat} {M : pM} {h : Nat} {w : Int} {X : bS} {ix : Nat → Nat} (hS : sOk M.1) (hh : h < 4) (hw : 0 ≤ w ∧ w ≤ 1) (hC : CF M 19 X ix) (hD : bOk X.1) (hk : bK X.1 X.2) (hSr : SNr M) (hR : CRd M X) : Ct (d + 5) 0 0 yX11_round [.ref 2, .int (iI ((h : Nat) : Int)), .int (iI w)] M (fun v M2 => ∃ a b, rdA X h a b ∧ v = some (.int (iI (if w = 0 then a else b))) ∧ CRd M2 X ∧ frY M M2 ∧ SNr M2) := by
  refine ct_in (d := (d + 4)) kX11_round rfl (by decide) (Nat.le_of_ble_eq_true rfl) (by decide) ?_
  show Go (Ct (d + 4)) _ yX11_round cX11_round (some .int) 0 0 0 [some (.ref 2), some (.int (iI ((h : Nat) : Int))), some (.int (iI w))] [] M
  refine r_iload1 (pc2 := 1) dX11_round_0 rfl ?_
  refine r_cs1 (pc2 := 4) dX11_round_1 rfl sX11_155 (by decide) (c_X11_isHopper (d := d + 3) (h := ((h : Nat) : Int)) ⟨by omega, by omega⟩) ?_
  rintro _ M9 ⟨rfl, h9⟩
  rw [h9, if_pos (show 0 ≤ ((h : Nat) : Int) ∧ ((h : Nat) : Int) < 4 by omega)]
  show Go (Ct (d + 4)) _ yX11_round cX11_round (some .int) 0 0 4 [some (.ref 2), some (.int (iI ((h : Nat) : Int))), some (.int (iI w))] [.int (iI 1)] M
  refine r_ifeq (tgt := 16) (pc2 := 7) dX11_round_4 rfl (by decide) ⟨by omega, by omega⟩ (fun h9 => absurd h9 (by decide)) (fun _ => ?_)
  refine r_iload2 (pc2 := 8) dX11_round_7 rfl ?_
  refine r_iflt (tgt := 16) (pc2 := 11) dX11_round_8 rfl (by decide) ⟨by omega, by omega⟩ (fun b_8 => ?_) (fun b_8 => ?_)
  · exact absurd b_8 (by omega)
  · refine r_iload2 (pc2 := 12) dX11_round_11 rfl ?_
    refine r_iconst (pc2 := 13) dX11_round_12 rfl ?_
    refine r_icle (tgt := 18) (pc2 := 16) dX11_round_13 rfl (by decide) ⟨by omega, by omega⟩ ⟨by omega, by omega⟩ (fun b_13 => ?_) (fun b_13 => ?_)
    · refine r_aload0 (pc2 := 19) dX11_round_18 rfl ?_
      refine r_getR (pc2 := 22) dX11_round_19 rfl fX11_73 (hK_2 hS) (hR_2_9 hS) ?_
      refine r_aload0 (pc2 := 23) dX11_round_22 rfl ?_
      refine r_getR (pc2 := 26) dX11_round_23 rfl fX11_28 (hK_2 hS) (hR_2_2 hS) ?_
      refine r_iload1 (pc2 := 27) dX11_round_26 rfl ?_
      refine r_aload0 (pc2 := 28) dX11_round_27 rfl ?_
      refine r_getR (pc2 := 31) dX11_round_28 rfl fX11_66 (hK_2 hS) (hR_2_8 hS) ?_
      refine r_cv3 (pc2 := 34) dX11_round_31 rfl vX11_177 (hK_263 hS) (by decide) (c_X5_look2 (d := d) (h := h) (v := M.2.2 19 11) (sh := X.2) (kd := X.1.2.1) (lv := X.1.2.2.2.1) (co := X.1.2.2.1) hS hC.1.1 (fun p hp => (bT_r X.1 p).1) (fun q hq => ⟨(hC.1.2.1 q hq).1, by have := hD.1 q hq; unfold inR; omega⟩) (fun q hq => ⟨(hC.1.2.1 q hq).2.1, (hD.1 q hq).2.2.1⟩) (fun q hq => ⟨hC.1.2.2 q hq, hD.2.1 q hq⟩) hh rfl hC.2.1 hk hSr (by unfold inR; rcases hR with e | ⟨q, q1, e, -⟩ <;> omega)) ?_
      rintro _ M1 ⟨rfl, h9⟩
      have h8 : ∃ a b, rdA X h a b ∧ M1.2.1 263 1 = a ∧ M1.2.1 263 2 = b ∧ M1.2.1 263 0 = (h : Int) ∧ frY M M1 ∧ SNr M1 := by
        rcases h9 with ⟨e, rfl⟩ | ⟨e, a, b, r1, r2, r3, r4, r5, r6, r7, r8⟩
        · rcases hR with e2 | ⟨q, q1, q2, q3⟩
          · omega
          · obtain rfl : q = h := by omega
            exact ⟨_, _, q3, rfl, rfl, e, ⟨fr.rf, rfl, fun _ _ => rfl⟩, hSr⟩
        · exact ⟨a, b, r1, r2, r3, r4, ⟨r5, r6, r7⟩, r8⟩
      obtain ⟨a, b, r1, r2, r3, r4, r5, r6⟩ := h8
      have hS1 := r5.1.ok hS
      show Go (Ct (d + 4)) _ yX11_round cX11_round (some .int) 0 0 34 [some (.ref 2), some (.int (iI ((h : Nat) : Int))), some (.int (iI w))] [] M1
      refine r_iload2 (pc2 := 35) dX11_round_34 rfl ?_
      refine r_ifne (tgt := 48) (pc2 := 38) dX11_round_35 rfl (by decide) ⟨by omega, by omega⟩ (fun b_35 => ?_) (fun b_35 => ?_)
      · refine r_aload0 (pc2 := 49) dX11_round_48 rfl ?_
        refine r_getR (pc2 := 52) dX11_round_49 rfl fX11_73 (hK_2 hS1) (hR_2_9 hS1) ?_
        refine r_getI (z := b) (pc2 := 55) dX11_round_52 rfl (Or.inl fX11_184) (hK_263 hS1) r3 ?_
        refine r_ireti dX11_round_55 rfl ?_
        exact ⟨a, b, r1, by rw [if_neg (by omega)], Or.inr ⟨h, hh, r4, by rw [r2, r3]; exact r1⟩, r5, r6⟩
      · refine r_aload0 (pc2 := 39) dX11_round_38 rfl ?_
        refine r_getR (pc2 := 42) dX11_round_39 rfl fX11_73 (hK_2 hS1) (hR_2_9 hS1) ?_
        refine r_getI (z := a) (pc2 := 45) dX11_round_42 rfl (Or.inl fX11_181) (hK_263 hS1) r2 ?_
        refine r_goto (tgt := 55) dX11_round_45 (by decide) ?_
        refine r_ireti dX11_round_55 rfl ?_
        exact ⟨a, b, r1, by rw [if_pos (by omega)], Or.inr ⟨h, hh, r4, by rw [r2, r3]; exact r1⟩, r5, r6⟩
    · exact absurd b_13 (by omega)
set_option maxHeartbeats 4000000 in
theorem c_X12_roundN {d : Nat} {M : pM} {z w : Int} (hS : sOk M.1) (hz : ¬ ((0 ≤ z ∧ z < 4) ∧ 0 ≤ w ∧ w ≤ 1)) (hzr : inR z) (hwr : inR w) : Ct (d + 2) 0 0 yX12_round [.ref 317, .int (iI z), .int (iI w)] M (fun v M2 => v = some (.int (iI (-1))) ∧ M2 = pI M 317 0 0) := by
  refine ct_in (d := (d + 1)) kX12_round rfl (by decide) (Nat.le_of_ble_eq_true rfl) (by decide) ?_
  show Go (Ct (d + 1)) _ yX12_round cX12_round (some .int) 0 0 0 [some (.ref 317), some (.int (iI z)), some (.int (iI w))] [] M
  obtain ⟨zr1, zr2⟩ := hzr
  obtain ⟨nr1, nr2⟩ := hwr
  refine r_aload0 (pc2 := 1) dX12_round_0 rfl ?_
  refine r_iconst (pc2 := 2) dX12_round_1 rfl ?_
  refine r_putI (z := 0) (pc2 := 5) dX12_round_2 rfl fX12_1 (w12_0 _) (hK_317 hS) (by decide) ?_
  refine r_iload1 (pc2 := 6) dX12_round_5 rfl ?_
  refine r_cs1 (pc2 := 9) dX12_round_6 rfl sX12_306 (by decide) (c_X12_isHopper (d := d) (h := z) ⟨by omega, by omega⟩) ?_
  by_cases hh : 0 ≤ z ∧ z < 4
  · rintro _ M9 ⟨rfl, h9⟩
    rw [h9, if_pos hh]
    show Go (Ct (d + 1)) _ yX12_round cX12_round (some .int) 0 0 9 [some (.ref 317), some (.int (iI z)), some (.int (iI w))] [.int (iI 1)] (pI M 317 0 0)
    refine r_ifeq (tgt := 29) (pc2 := 12) dX12_round_9 rfl (by decide) ⟨by omega, by omega⟩ (fun h9 => absurd h9 (by decide)) (fun _ => ?_)
    refine r_iload2 (pc2 := 13) dX12_round_12 rfl ?_
    refine r_iflt (tgt := 29) (pc2 := 16) dX12_round_13 rfl (by decide) ⟨by omega, by omega⟩ (fun b_13 => ?_) (fun b_13 => ?_)
    · refine r_iconst (pc2 := 30) dX12_round_29 rfl ?_
      refine r_goto (tgt := 48) dX12_round_30 (by decide) ?_
      refine r_ireti dX12_round_48 rfl ?_
      exact ⟨rfl, rfl⟩
    · refine r_iload2 (pc2 := 17) dX12_round_16 rfl ?_
      refine r_iconst (pc2 := 18) dX12_round_17 rfl ?_
      refine r_icgt (tgt := 29) (pc2 := 21) dX12_round_18 rfl (by decide) ⟨by omega, by omega⟩ ⟨by omega, by omega⟩ (fun b_18 => ?_) (fun b_18 => ?_)
      · refine r_iconst (pc2 := 30) dX12_round_29 rfl ?_
        refine r_goto (tgt := 48) dX12_round_30 (by decide) ?_
        refine r_ireti dX12_round_48 rfl ?_
        exact ⟨rfl, rfl⟩
      · exact absurd ⟨hh, by omega, by omega⟩ hz
  · rintro _ M9 ⟨rfl, h9⟩
    rw [h9, if_neg hh]
    show Go (Ct (d + 1)) _ yX12_round cX12_round (some .int) 0 0 9 [some (.ref 317), some (.int (iI z)), some (.int (iI w))] [.int (iI 0)] (pI M 317 0 0)
    refine r_ifeq (tgt := 29) (pc2 := 12) dX12_round_9 rfl (by decide) ⟨by omega, by omega⟩ (fun _ => ?_) (fun h9 => absurd h9 (by decide))
    refine r_iconst (pc2 := 30) dX12_round_29 rfl ?_
    refine r_goto (tgt := 48) dX12_round_30 (by decide) ?_
    refine r_ireti dX12_round_48 rfl ?_
    exact ⟨rfl, rfl⟩
set_option maxHeartbeats 4000000 in
theorem c_X12_roundY {d : Nat} {M : pM} {h : Nat} {w : Int} {B : Nat → bS} (hS : sOk M.1) (hh : h < 4) (hw : 0 ≤ w ∧ w ≤ 1) (hB : MB M B) (hD : bOk (B 0).1) (hk : bK (B 0).1 (B 0).2) : Ct (d + 5) 0 0 yX12_round [.ref 317, .int (iI ((h : Nat) : Int)), .int (iI w)] M (fun v M2 => ∃ a b, rdA (B 0) h a b ∧ v = some (.int (iI (if w = 0 then a else b))) ∧ frT (pI M 317 0 0) M2) := by
  refine ct_in (d := (d + 4)) kX12_round rfl (by decide) (Nat.le_of_ble_eq_true rfl) (by decide) ?_
  show Go (Ct (d + 4)) _ yX12_round cX12_round (some .int) 0 0 0 [some (.ref 317), some (.int (iI ((h : Nat) : Int))), some (.int (iI w))] [] M
  have hB0 := hB.z (k := 0) (z := 0) 0 (by omega)
  refine r_aload0 (pc2 := 1) dX12_round_0 rfl ?_
  refine r_iconst (pc2 := 2) dX12_round_1 rfl ?_
  refine r_putI (z := 0) (pc2 := 5) dX12_round_2 rfl fX12_1 (w12_0 _) (hK_317 hS) (by decide) ?_
  refine r_iload1 (pc2 := 6) dX12_round_5 rfl ?_
  refine r_cs1 (pc2 := 9) dX12_round_6 rfl sX12_306 (by decide) (c_X12_isHopper (d := d + 3) (h := ((h : Nat) : Int)) ⟨by omega, by omega⟩) ?_
  rintro _ M9 ⟨rfl, h9⟩
  rw [h9, if_pos (show 0 ≤ ((h : Nat) : Int) ∧ ((h : Nat) : Int) < 4 by omega)]
  show Go (Ct (d + 4)) _ yX12_round cX12_round (some .int) 0 0 9 [some (.ref 317), some (.int (iI ((h : Nat) : Int))), some (.int (iI w))] [.int (iI 1)] (pI M 317 0 0)
  refine r_ifeq (tgt := 29) (pc2 := 12) dX12_round_9 rfl (by decide) ⟨by omega, by omega⟩ (fun h9 => absurd h9 (by decide)) (fun _ => ?_)
  refine r_iload2 (pc2 := 13) dX12_round_12 rfl ?_
  refine r_iflt (tgt := 29) (pc2 := 16) dX12_round_13 rfl (by decide) ⟨by omega, by omega⟩ (fun b_13 => ?_) (fun b_13 => ?_)
  · refine r_iconst (pc2 := 30) dX12_round_29 rfl ?_
    refine r_goto (tgt := 48) dX12_round_30 (by decide) ?_
    refine r_ireti dX12_round_48 rfl ?_
    exact absurd b_13 (by omega)
  · refine r_iload2 (pc2 := 17) dX12_round_16 rfl ?_
    refine r_iconst (pc2 := 18) dX12_round_17 rfl ?_
    refine r_icgt (tgt := 29) (pc2 := 21) dX12_round_18 rfl (by decide) ⟨by omega, by omega⟩ ⟨by omega, by omega⟩ (fun b_18 => ?_) (fun b_18 => ?_)
    · refine r_iconst (pc2 := 30) dX12_round_29 rfl ?_
      refine r_goto (tgt := 48) dX12_round_30 (by decide) ?_
      refine r_ireti dX12_round_48 rfl ?_
      exact absurd b_18 (by omega)
    · refine r_aload0 (pc2 := 22) dX12_round_21 rfl ?_
      refine r_iload1 (pc2 := 23) dX12_round_22 rfl ?_
      refine r_cv1 (pc2 := 26) dX12_round_23 rfl vX12_354 (hK_317 hS) (by decide) (c_X12_comesRound (d := d) (h := h) (pc := (B 0).1.1.1) (sz := (B 0).1.1.2) (sh := (B 0).2) (kd := (B 0).1.2.1) (lv := (B 0).1.2.2.2.1) (co := (B 0).1.2.2.1) hS (fun p hp => ⟨(hB0.1 p hp).1, bK_pc hk p hp⟩) (fun p hp => (hB0.1 p hp).2.1) (fun p hp => (hB0.1 p hp).2.2) hD.2.2 (fun q hq => ⟨(hB0.2.1 q hq).1, by have := hD.1 q hq; unfold inR; omega⟩) (fun q hq => ⟨(hB0.2.1 q hq).2.1, (hD.1 q hq).2.2.1⟩) (fun q hq => ⟨hB0.2.2 q hq, hD.2.1 q hq⟩) hh hk) ?_
      rintro v M1 ⟨a, b, r1, r2, ⟨ea, eb, rfl⟩ | ⟨rfl, ea, eb⟩⟩
      · have hS1 := r2.1.ok hS
        show Go (Ct (d + 4)) _ yX12_round cX12_round (some .int) 0 0 26 [some (.ref 317), some (.int (iI ((h : Nat) : Int))), some (.int (iI w))] [.int (iI 0)] M1
        refine r_ifne (tgt := 33) (pc2 := 29) dX12_round_26 rfl (by decide) ⟨by omega, by omega⟩ (fun h9 => absurd h9 (by decide)) (fun _ => ?_)
        refine r_iconst (pc2 := 30) dX12_round_29 rfl ?_
        refine r_goto (tgt := 48) dX12_round_30 (by decide) ?_
        refine r_ireti dX12_round_48 rfl ?_
        exact ⟨a, b, r1, by rw [ea, eb]; split <;> rfl, r2⟩
      · have hS1 := r2.1.ok hS
        show Go (Ct (d + 4)) _ yX12_round cX12_round (some .int) 0 0 26 [some (.ref 317), some (.int (iI ((h : Nat) : Int))), some (.int (iI w))] [.int (iI 1)] M1
        refine r_ifne (tgt := 33) (pc2 := 29) dX12_round_26 rfl (by decide) ⟨by omega, by omega⟩ (fun _ => ?_) (fun h9 => absurd h9 (by decide))
        refine r_iload2 (pc2 := 34) dX12_round_33 rfl ?_
        refine r_ifne (tgt := 44) (pc2 := 37) dX12_round_34 rfl (by decide) ⟨by omega, by omega⟩ (fun b_34 => ?_) (fun b_34 => ?_)
        · refine r_aload0 (pc2 := 45) dX12_round_44 rfl ?_
          refine r_getI (z := b) (pc2 := 48) dX12_round_45 rfl (Or.inl fX12_347) (hK_317 hS1) eb ?_
          refine r_ireti dX12_round_48 rfl ?_
          exact ⟨a, b, r1, by rw [if_neg (by omega)], r2⟩
        · refine r_aload0 (pc2 := 38) dX12_round_37 rfl ?_
          refine r_getI (z := a) (pc2 := 41) dX12_round_38 rfl (Or.inl fX12_344) (hK_317 hS1) ea ?_
          refine r_goto (tgt := 48) dX12_round_41 (by decide) ?_
          refine r_ireti dX12_round_48 rfl ?_
          exact ⟨a, b, r1, by rw [if_pos (by omega)], r2⟩
