/-! the class's program is G -/
def CG (M : pM) (G : gPr) : Prop := M.2.1 9 11 = ((gS G : Nat) : Int) ∧ M.2.1 9 12 = ((gT G : Nat) : Int) ∧ M.2.1 9 13 = ((gD G : Nat) : Int) ∧ (∀ i, i < gS G → M.2.1 10 i = gA G i ∧ M.2.1 11 i = gE G i ∧ (¬ gA G i = 13 → M.2.1 12 i = g1 G i ∧ M.2.1 13 i = g2 G i ∧ M.2.1 14 i = g3 G i ∧ M.2.1 15 i = g4 G i)) ∧ (∀ k, k < gT G ∨ (inL G ∧ k = gT G) → M.2.2 16 k = lN (gN G k) ∧ M.2.1 17 k = ((gL G k : Nat) : Int)) ∧ ∀ j, j < gD G → M.2.1 18 j = ((gO G j : Nat) : Int)
/-- its bounds -/
def gOk (G : gPr) : Prop := gS G ≤ 125 ∧ gT G ≤ 30 ∧ gD G ≤ 5 ∧ (∀ j, j < gD G → gO G j < gS G) ∧ (∀ i, i < gS G → 10 ≤ gA G i ∧ gA G i ≤ 16) ∧ (∀ k, k < gT G → vId (gN G k))
theorem CG.r {M : pM} {G : gPr} {r : rdT} (h : CG M G) : CG (rM M r) G := h
theorem cT.r {M : pM} {T : tD} {r : rdT} (h : cT M T) : cT (rM M r) T := h

set_option maxHeartbeats 4000000 in
theorem lp_X4_nameAtHand {d : Nat} {Q : pQ} {M : pM} {T : tD} {r : rdT} {G : gPr} (hS : sOk M.1) (hT : tOk T) (hC : cT M T) (ho : rOk T r) (hG2 : M.2.1 9 12 = ((gT G : Nat) : Int)) (hG5 : ∀ k, k < gT G → M.2.2 16 k = lN (gN G k)) (hg : gOk G) (x : Int64) (hx : M.2.2 8 r.1 = x)
    (hQ : ∀ z : Int, -1 ≤ z → z < 30 → (∀ y, vId y → x = lN y → z = fnN G y) → Q (some (.int (iI z))) (rM M r)) :
    ∀ (m i : Nat), i + m = gT G → (∀ y, vId y → x = lN y → fnd (gN G) y m i = fnN G y) →
      Go (Ct d) Q yX4_nameAtHand cX4_nameAtHand (some .int) 0 0 2 [some (.ref 9), some (.int (iI ((i : Nat) : Int)))] [] (rM M r) := by
  have hT1 := hT.1
  have ho1 := ho.1
  have hg2 := hg.2.1
  have htd : (rM M r).2.1 9 12 = ((gT G : Nat) : Int) := hG2
  have hx2 : (rM M r).2.2 8 r.1 = x := hx
  intro m
  induction m with
  | zero =>
    intro i hm hf
    obtain rfl : i = gT G := by omega
    refine r_iload1 (pc2 := 3) dX4_nameAtHand_2 rfl ?_
    refine r_aload0 (pc2 := 4) dX4_nameAtHand_3 rfl ?_
    refine r_getI (z := ((gT G : Nat) : Int)) (pc2 := 7) dX4_nameAtHand_4 rfl (Or.inl fX4_51) (hK_9 hS) htd ?_
    refine r_icge (tgt := 40) (pc2 := 10) dX4_nameAtHand_7 rfl (by decide) ⟨by omega, by omega⟩ ⟨by omega, by omega⟩ (fun b_7 => ?_) (fun b_7 => ?_)
    · refine r_iconst (pc2 := 41) dX4_nameAtHand_40 rfl ?_
      refine r_ireti dX4_nameAtHand_41 rfl ?_
      exact hQ (-1) (by omega) (by omega) (fun y h1 h2 => hf y h1 h2)
    · exact absurd b_7 (by omega)
  | succ m ih =>
    intro i hm hf
    have hn1 : (rM M r).2.2 16 i = lN (gN G i) := hG5 i (by omega)
    have hvi := hg.2.2.2.2.2 i (by omega)
    refine r_iload1 (pc2 := 3) dX4_nameAtHand_2 rfl ?_
    refine r_aload0 (pc2 := 4) dX4_nameAtHand_3 rfl ?_
    refine r_getI (z := ((gT G : Nat) : Int)) (pc2 := 7) dX4_nameAtHand_4 rfl (Or.inl fX4_51) (hK_9 hS) htd ?_
    refine r_icge (tgt := 40) (pc2 := 10) dX4_nameAtHand_7 rfl (by decide) ⟨by omega, by omega⟩ ⟨by omega, by omega⟩ (fun b_7 => ?_) (fun b_7 => ?_)
    · refine r_iconst (pc2 := 41) dX4_nameAtHand_40 rfl ?_
      refine r_ireti dX4_nameAtHand_41 rfl ?_
      exact absurd b_7 (by omega)
    · refine r_aload0 (pc2 := 11) dX4_nameAtHand_10 rfl ?_
      refine r_getR (pc2 := 14) dX4_nameAtHand_11 rfl fX4_30 (hK_9 hS) (hR_9_7 hS) ?_
      refine r_iload1 (pc2 := 15) dX4_nameAtHand_14 rfl ?_
      refine r_lald (z := (lN (gN G i))) (pc2 := 16) dX4_nameAtHand_15 rfl (hK_16 hS) i rfl (by omega) hn1 ?_
      refine r_aload0 (pc2 := 17) dX4_nameAtHand_16 rfl ?_
      refine r_getR (pc2 := 20) dX4_nameAtHand_17 rfl fX4_40 (hK_9 hS) (hR_9_0 hS) ?_
      refine r_getR (pc2 := 23) dX4_nameAtHand_20 rfl fX4_140 (hK_3 hS) (hR_3_4 hS) ?_
      refine r_aload0 (pc2 := 24) dX4_nameAtHand_23 rfl ?_
      refine r_getI (z := ((r.1 : Nat) : Int)) (pc2 := 27) dX4_nameAtHand_24 rfl (Or.inl fX4_44) (hK_9 hS) rM_t ?_
      refine r_lald (z := x) (pc2 := 28) dX4_nameAtHand_27 rfl (hK_8 hS) (r.1) rfl (by omega) hx2 ?_
      refine r_lcmp (pc2 := 29) dX4_nameAtHand_28 rfl ?_
      have lr28 := lcm_r ((lN (gN G i))) (x)
      rw [lg_iI]
      refine r_ifne (tgt := 34) (pc2 := 32) dX4_nameAtHand_29 rfl (by decide) ⟨by omega, by omega⟩ (fun b_29 => ?_) (fun b_29 => ?_)
      · refine r_iinc1 (z := ((i + 1 : Nat) : Int)) (pc2 := 37) dX4_nameAtHand_34 rfl (by omega) rfl ?_
        refine r_goto (tgt := 2) dX4_nameAtHand_37 (by decide) ?_
        refine ih (i + 1) (by omega) (fun y h1 h2 => ?_)
        have h3 := hf y h1 h2
        rw [fnd, if_neg (fun q => b_29 (lr28.2.2.mpr (by rw [q, h2])))] at h3
        exact h3
      · refine r_iload1 (pc2 := 33) dX4_nameAtHand_32 rfl ?_
        refine r_ireti dX4_nameAtHand_33 rfl ?_
        refine hQ ((i : Nat) : Int) (by omega) (by omega) (fun y h1 h2 => ?_)
        have h3 := hf y h1 h2
        have h4 : gN G i = y := (hvi.key h1).1.mp ((lr28.2.2.mp (by omega)).trans h2)
        rw [fnd, if_pos h4] at h3
        exact h3
set_option maxHeartbeats 4000000 in
theorem c_X4_nameAtHand {d : Nat} {M : pM} {T : tD} {r : rdT} {G : gPr} (hS : sOk M.1) (hT : tOk T) (hC : cT M T) (ho : rOk T r) (hG2 : M.2.1 9 12 = ((gT G : Nat) : Int)) (hG5 : ∀ k, k < gT G → M.2.2 16 k = lN (gN G k)) (hg : gOk G) : Ct (d + 1) 0 0 yX4_nameAtHand [.ref 9] (rM M r) (fun v M2 => ∃ z, -1 ≤ z ∧ z < 30 ∧ v = some (.int (iI z)) ∧ M2 = rM M r ∧ (isW (kK T r.1) → z = fnN G (kI T r.1))) := by
  refine ct_in (d := d) kX4_nameAtHand rfl (by decide) (Nat.le_of_ble_eq_true rfl) (by decide) ?_
  show Go (Ct d) _ yX4_nameAtHand cX4_nameAtHand (some .int) 0 0 0 [some (.ref 9), none] [] (rM M r)
  have hT1 := hT.1
  have ho1 := ho.1
  have ho2 := ho.2.1
  have ho3 := ho.2.2
  refine r_iconst (pc2 := 1) dX4_nameAtHand_0 rfl ?_
  refine r_istore1 (pc2 := 2) dX4_nameAtHand_1 rfl rfl ?_
  refine lp_X4_nameAtHand hS hT hC ho hG2 hG5 hg _ rfl (fun z z1 z2 hz => ⟨z, z1, z2, rfl, rfl, fun q => ?_⟩) (gT G) 0 (by omega) (fun y h1 h2 => rfl)
  have hl : r.1 < T.1 := K_lt hT ho.1 (by unfold isW at q; omega)
  exact hz _ (hT.2.2.2.2.2.1 r.1 hl q).1 (hC.2.2.2 r.1 hl q)
set_option maxHeartbeats 4000000 in
theorem c_X4_beginF {d : Nat} {M : pM} {T : tD} {r : rdT} {G : gPr} {a : Int} (hS : sOk M.1) (hT : tOk T) (hC : cT M T) (ho : rOk T r) (hG : CG M G) (hg : gOk G) (hf : ¬ r.2 = 0) (h125 : gS G < 125) : Ct (d + 2) 0 0 yX4_begin [.ref 9, .int (iI a)] (rM M r) (fun v M2 => v = some (.int (iI 0)) ∧ M2 = rM M r) := by
  refine ct_in (d := (d + 1)) kX4_begin rfl (by decide) (Nat.le_of_ble_eq_true rfl) (by decide) ?_
  show Go (Ct (d + 1)) _ yX4_begin cX4_begin (some .int) 0 0 0 [some (.ref 9), some (.int (iI a))] [] (rM M r)
  have hT1 := hT.1
  have ho1 := ho.1
  have ho2 := ho.2.1
  have ho3 := ho.2.2
  refine r_aload0 (pc2 := 1) dX4_begin_0 rfl ?_
  refine r_getI (z := ((gS G : Nat) : Int)) (pc2 := 4) dX4_begin_1 rfl (Or.inl fX4_48) (hK_9 hS) hG.1 ?_
  refine r_bipush (pc2 := 6) dX4_begin_4 rfl (by decide) (by decide) ?_
  refine r_iclt (tgt := 14) (pc2 := 9) dX4_begin_6 rfl (by decide) ⟨by omega, by omega⟩ ⟨by omega, by omega⟩ (fun b_6 => ?_) (fun b_6 => ?_)
  · refine r_aload0 (pc2 := 15) dX4_begin_14 rfl ?_
    refine r_getI (z := r.2) (pc2 := 18) dX4_begin_15 rfl (Or.inl fX4_57) (hK_9 hS) rM_f ?_
    refine r_ifeq (tgt := 23) (pc2 := 21) dX4_begin_18 rfl (by decide) ⟨by omega, by omega⟩ (fun b_18 => ?_) (fun b_18 => ?_)
    · exact absurd b_18 (by omega)
    · refine r_iconst (pc2 := 22) dX4_begin_21 rfl ?_
      refine r_ireti dX4_begin_22 rfl ?_
      exact ⟨rfl, rfl⟩
  · exact absurd b_6 (by omega)
set_option maxHeartbeats 4000000 in
theorem c_X4_begin {d : Nat} {M : pM} {T : tD} {r : rdT} {G : gPr} {a : Int} (hS : sOk M.1) (hT : tOk T) (hC : cT M T) (ho : rOk T r) (hG : CG M G) (hg : gOk G) (hf : r.2 = 0) (h125 : gS G < 125) : Ct (d + 2) 0 0 yX4_begin [.ref 9, .int (iI a)] (rM M r) (fun v M2 => v = some (.int (iI ((gS G : Nat) : Int))) ∧ M2 = rM (pI (pI (pI M 10 (gS G) a) 11 (gS G) (((gS G + 1 : Nat)) : Int)) 9 11 (((gS G + 1 : Nat)) : Int)) (av T r)) := by
  refine ct_in (d := (d + 1)) kX4_begin rfl (by decide) (Nat.le_of_ble_eq_true rfl) (by decide) ?_
  show Go (Ct (d + 1)) _ yX4_begin cX4_begin (some .int) 0 0 0 [some (.ref 9), some (.int (iI a))] [] (rM M r)
  have hT1 := hT.1
  have ho1 := ho.1
  have ho2 := ho.2.1
  have ho3 := ho.2.2
  refine r_aload0 (pc2 := 1) dX4_begin_0 rfl ?_
  refine r_getI (z := ((gS G : Nat) : Int)) (pc2 := 4) dX4_begin_1 rfl (Or.inl fX4_48) (hK_9 hS) hG.1 ?_
  refine r_bipush (pc2 := 6) dX4_begin_4 rfl (by decide) (by decide) ?_
  refine r_iclt (tgt := 14) (pc2 := 9) dX4_begin_6 rfl (by decide) ⟨by omega, by omega⟩ ⟨by omega, by omega⟩ (fun b_6 => ?_) (fun b_6 => ?_)
  · refine r_aload0 (pc2 := 15) dX4_begin_14 rfl ?_
    refine r_getI (z := r.2) (pc2 := 18) dX4_begin_15 rfl (Or.inl fX4_57) (hK_9 hS) rM_f ?_
    refine r_ifeq (tgt := 23) (pc2 := 21) dX4_begin_18 rfl (by decide) ⟨by omega, by omega⟩ (fun b_18 => ?_) (fun b_18 => ?_)
    · refine r_aload0 (pc2 := 24) dX4_begin_23 rfl ?_
      refine r_cv0 (pc2 := 27) dX4_begin_24 rfl vX4_108 (hK_9 hS) (by decide) (c_X4_advance (d := d) (M := M) (r := r) hS hT hC ho) ?_
      rintro _ M9 ⟨rfl, h9⟩
      rw [h9]
      show Go (Ct (d + 1)) _ yX4_begin cX4_begin (some .int) 0 0 27 [some (.ref 9), some (.int (iI a))] [] (rM M (av T r))
      refine r_aload0 (pc2 := 28) dX4_begin_27 rfl ?_
      refine r_getR (pc2 := 31) dX4_begin_28 rfl fX4_11 (hK_9 hS) (hR_9_1 hS) ?_
      refine r_aload0 (pc2 := 32) dX4_begin_31 rfl ?_
      refine r_getI (z := ((gS G : Nat) : Int)) (pc2 := 35) dX4_begin_32 rfl (Or.inl fX4_48) (hK_9 hS) hG.1 ?_
      refine r_iload1 (pc2 := 36) dX4_begin_35 rfl ?_
      refine r_iast (z := a) (pc2 := 37) dX4_begin_36 rfl (hK_10 hS) (by decide) (gS G) rfl (by omega) ?_
      refine r_aload0 (pc2 := 38) dX4_begin_37 rfl ?_
      refine r_getR (pc2 := 41) dX4_begin_38 rfl fX4_15 (hK_9 hS) (hR_9_2 hS) ?_
      refine r_aload0 (pc2 := 42) dX4_begin_41 rfl ?_
      refine r_getI (z := ((gS G : Nat) : Int)) (pc2 := 45) dX4_begin_42 rfl (Or.inl fX4_48) (hK_9 hS) hG.1 ?_
      refine r_aload0 (pc2 := 46) dX4_begin_45 rfl ?_
      refine r_getI (z := ((gS G : Nat) : Int)) (pc2 := 49) dX4_begin_46 rfl (Or.inl fX4_48) (hK_9 hS) hG.1 ?_
      refine r_iconst (pc2 := 50) dX4_begin_49 rfl ?_
      refine r_iadd (c := (((gS G + 1) : Nat) : Int)) (pc2 := 51) dX4_begin_50 rfl (by omega) ?_
      refine r_iast (z := (((gS G + 1) : Nat) : Int)) (pc2 := 52) dX4_begin_51 rfl (hK_11 hS) (by decide) (gS G) rfl (by omega) ?_
      refine r_aload0 (pc2 := 53) dX4_begin_52 rfl ?_
      refine r_dup (pc2 := 54) dX4_begin_53 rfl rfl ?_
      refine r_getI (z := ((gS G : Nat) : Int)) (pc2 := 57) dX4_begin_54 rfl (Or.inl fX4_48) (hK_9 hS) hG.1 ?_
      refine r_iconst (pc2 := 58) dX4_begin_57 rfl ?_
      refine r_iadd (c := (((gS G + 1) : Nat) : Int)) (pc2 := 59) dX4_begin_58 rfl (by omega) ?_
      refine r_putI (z := (((gS G + 1) : Nat) : Int)) (pc2 := 62) dX4_begin_59 rfl fX4_48 (w4_11 _) (hK_9 hS) (by decide) ?_
      refine r_aload0 (pc2 := 63) dX4_begin_62 rfl ?_
      refine r_getI (z := (((gS G + 1) : Nat) : Int)) (pc2 := 66) dX4_begin_63 rfl (Or.inl fX4_48) (hK_9 hS) rfl ?_
      refine r_iconst (pc2 := 67) dX4_begin_66 rfl ?_
      refine r_isub (c := ((gS G : Nat) : Int)) (pc2 := 68) dX4_begin_67 rfl (by omega) ?_
      refine r_ireti dX4_begin_68 rfl ?_
      refine ⟨rfl, ?_⟩
      rw [rM_o (by omega), rM_o (by omega), rM_o (by omega)]
    · exact absurd b_18 (by omega)
  · exact absurd b_6 (by omega)
set_option maxHeartbeats 4000000 in
theorem c_X4_checkOutside {d : Nat} {M : pM} {T : tD} {r : rdT} {G : gPr} (hS : sOk M.1) (hT : tOk T) (hC : cT M T) (ho : rOk T r) (hG : CG M G) (hg : gOk G) : Ct (d + 2) 0 0 yX4_checkOutside [.ref 9] (rM M r) (fun v M2 => v = none ∧ M2 = rM M (cOu T r G)) := by
  refine ct_in (d := (d + 1)) kX4_checkOutside rfl (by decide) (Nat.le_of_ble_eq_true rfl) (by decide) ?_
  show Go (Ct (d + 1)) _ yX4_checkOutside cX4_checkOutside none 0 0 0 [some (.ref 9)] [] (rM M r)
  have hT1 := hT.1
  have ho1 := ho.1
  have ho2 := ho.2.1
  have ho3 := ho.2.2
  have hg3 := hg.2.2.1
  refine r_aload0 (pc2 := 1) dX4_checkOutside_0 rfl ?_
  refine r_getI (z := ((gD G : Nat) : Int)) (pc2 := 4) dX4_checkOutside_1 rfl (Or.inl fX4_54) (hK_9 hS) hG.2.2.1 ?_
  refine r_ifle (tgt := 12) (pc2 := 7) dX4_checkOutside_4 rfl (by decide) ⟨by omega, by omega⟩ (fun b_4 => ?_) (fun b_4 => ?_)
  · refine r_ret dX4_checkOutside_12 rfl ?_
    refine ⟨rfl, ?_⟩
    rw [cOu, if_neg (by omega)]
  · refine r_aload0 (pc2 := 8) dX4_checkOutside_7 rfl ?_
    refine r_iconst (pc2 := 9) dX4_checkOutside_8 rfl ?_
    refine r_cv1 (pc2 := 12) dX4_checkOutside_9 rfl vX4_104 (hK_9 hS) (by decide) (c_X4_fail (d := d) (M := M) (r := r) (w := 1) hS hT hC ho (by omega)) ?_
    rintro _ M9 ⟨rfl, h9⟩
    rw [h9]
    show Go (Ct (d + 1)) _ yX4_checkOutside cX4_checkOutside none 0 0 12 [some (.ref 9)] [] (rM M (fl T 1 r))
    refine r_ret dX4_checkOutside_12 rfl ?_
    refine ⟨rfl, ?_⟩
    rw [cOu, if_pos (by omega)]
set_option maxHeartbeats 4000000 in
theorem c_X4_checkNested {d : Nat} {M : pM} {T : tD} {r : rdT} {G : gPr} (hS : sOk M.1) (hT : tOk T) (hC : cT M T) (ho : rOk T r) (hG : CG M G) (hg : gOk G) : Ct (d + 2) 0 0 yX4_checkNested [.ref 9] (rM M r) (fun v M2 => v = none ∧ M2 = rM M (cNs T r G)) := by
  refine ct_in (d := (d + 1)) kX4_checkNested rfl (by decide) (Nat.le_of_ble_eq_true rfl) (by decide) ?_
  show Go (Ct (d + 1)) _ yX4_checkNested cX4_checkNested none 0 0 0 [some (.ref 9), none] [] (rM M r)
  have hT1 := hT.1
  have ho1 := ho.1
  have ho2 := ho.2.1
  have ho3 := ho.2.2
  have hg1 := hg.1
  have hg3 := hg.2.2.1
  have hgo : 0 < gD G → gO G 0 < gS G := hg.2.2.2.1 0
  have hga : 0 < gD G → 10 ≤ gA G (gO G 0) ∧ gA G (gO G 0) ≤ 16 := fun q => hg.2.2.2.2.1 _ (hg.2.2.2.1 0 q)
  have haO : gA G (gO G 0) = gA G (gO G 0) := rfl
  refine r_aload0 (pc2 := 1) dX4_checkNested_0 rfl ?_
  refine r_getI (z := ((gD G : Nat) : Int)) (pc2 := 4) dX4_checkNested_1 rfl (Or.inl fX4_54) (hK_9 hS) hG.2.2.1 ?_
  refine r_ifle (tgt := 27) (pc2 := 7) dX4_checkNested_4 rfl (by decide) ⟨by omega, by omega⟩ (fun b_4 => ?_) (fun b_4 => ?_)
  · refine r_iconst (pc2 := 28) dX4_checkNested_27 rfl ?_
    refine r_istore1 (pc2 := 29) dX4_checkNested_28 rfl rfl ?_
    refine r_aload0 (pc2 := 30) dX4_checkNested_29 rfl ?_
    refine r_getI (z := ((gD G : Nat) : Int)) (pc2 := 33) dX4_checkNested_30 rfl (Or.inl fX4_54) (hK_9 hS) hG.2.2.1 ?_
    refine r_iload1 (pc2 := 34) dX4_checkNested_33 rfl ?_
    refine r_ifeq (tgt := 41) (pc2 := 37) dX4_checkNested_34 rfl (by decide) ⟨by omega, by omega⟩ (fun _ => ?_) (fun h9 => absurd h9 (by decide))
    refine r_iconst (pc2 := 42) dX4_checkNested_41 rfl ?_
    refine r_isub (c := (((gD G : Nat) : Int) - 0)) (pc2 := 43) dX4_checkNested_42 rfl rfl ?_
    refine r_iconst (pc2 := 44) dX4_checkNested_43 rfl ?_
    refine r_iclt (tgt := 52) (pc2 := 47) dX4_checkNested_44 rfl (by decide) ⟨by omega, by omega⟩ ⟨by omega, by omega⟩ (fun b_44 => ?_) (fun b_44 => ?_)
    · refine r_ret dX4_checkNested_52 rfl ?_
      have en : nst G = gD G := by rw [nst, if_neg (fun q => absurd q.1 (by omega)), Nat.sub_zero]
      refine ⟨rfl, ?_⟩
      rw [cNs, if_neg (by omega)]
    · refine r_aload0 (pc2 := 48) dX4_checkNested_47 rfl ?_
      refine r_iconst (pc2 := 49) dX4_checkNested_48 rfl ?_
      refine r_cv1 (pc2 := 52) dX4_checkNested_49 rfl vX4_104 (hK_9 hS) (by decide) (c_X4_fail (d := d) (M := M) (r := r) (w := 5) hS hT hC ho (by omega)) ?_
      rintro _ M9 ⟨rfl, h9⟩
      rw [h9]
      show Go (Ct (d + 1)) _ yX4_checkNested cX4_checkNested none 0 0 52 [some (.ref 9), some (.int (iI 0))] [] (rM M (fl T 5 r))
      refine r_ret dX4_checkNested_52 rfl ?_
      have en : nst G = gD G := by rw [nst, if_neg (fun q => absurd q.1 (by omega)), Nat.sub_zero]
      refine ⟨rfl, ?_⟩
      rw [cNs, if_pos (by omega)]
  · refine r_aload0 (pc2 := 8) dX4_checkNested_7 rfl ?_
    refine r_getR (pc2 := 11) dX4_checkNested_8 rfl fX4_11 (hK_9 hS) (hR_9_1 hS) ?_
    refine r_aload0 (pc2 := 12) dX4_checkNested_11 rfl ?_
    refine r_getR (pc2 := 15) dX4_checkNested_12 rfl fX4_37 (hK_9 hS) (hR_9_9 hS) ?_
    refine r_iconst (pc2 := 16) dX4_checkNested_15 rfl ?_
    refine r_iald (z := ((gO G 0 : Nat) : Int)) (pc2 := 17) dX4_checkNested_16 rfl (hK_18 hS) 0 rfl (by omega) (by rw [rM_c (by decide)]; exact hG.2.2.2.2.2 0 (by omega)) ?_
    refine r_iald (z := (gA G (gO G 0))) (pc2 := 18) dX4_checkNested_17 rfl (hK_10 hS) (gO G 0) rfl (by omega) (by rw [rM_c (by decide)]; exact (hG.2.2.2.1 _ (hg.2.2.2.1 0 (by omega))).1) ?_
    refine r_bipush (pc2 := 20) dX4_checkNested_18 rfl (by decide) (by decide) ?_
    refine r_icne (tgt := 27) (pc2 := 23) dX4_checkNested_20 rfl (by decide) ⟨by omega, by omega⟩ ⟨by omega, by omega⟩ (fun b_20 => ?_) (fun b_20 => ?_)
    · refine r_iconst (pc2 := 28) dX4_checkNested_27 rfl ?_
      refine r_istore1 (pc2 := 29) dX4_checkNested_28 rfl rfl ?_
      refine r_aload0 (pc2 := 30) dX4_checkNested_29 rfl ?_
      refine r_getI (z := ((gD G : Nat) : Int)) (pc2 := 33) dX4_checkNested_30 rfl (Or.inl fX4_54) (hK_9 hS) hG.2.2.1 ?_
      refine r_iload1 (pc2 := 34) dX4_checkNested_33 rfl ?_
      refine r_ifeq (tgt := 41) (pc2 := 37) dX4_checkNested_34 rfl (by decide) ⟨by omega, by omega⟩ (fun _ => ?_) (fun h9 => absurd h9 (by decide))
      refine r_iconst (pc2 := 42) dX4_checkNested_41 rfl ?_
      refine r_isub (c := (((gD G : Nat) : Int) - 0)) (pc2 := 43) dX4_checkNested_42 rfl rfl ?_
      refine r_iconst (pc2 := 44) dX4_checkNested_43 rfl ?_
      refine r_iclt (tgt := 52) (pc2 := 47) dX4_checkNested_44 rfl (by decide) ⟨by omega, by omega⟩ ⟨by omega, by omega⟩ (fun b_44 => ?_) (fun b_44 => ?_)
      · refine r_ret dX4_checkNested_52 rfl ?_
        have en : nst G = gD G := by rw [nst, if_neg (fun q => b_20 (by rw [← haO]; exact q.2)), Nat.sub_zero]
        refine ⟨rfl, ?_⟩
        rw [cNs, if_neg (by omega)]
      · refine r_aload0 (pc2 := 48) dX4_checkNested_47 rfl ?_
        refine r_iconst (pc2 := 49) dX4_checkNested_48 rfl ?_
        refine r_cv1 (pc2 := 52) dX4_checkNested_49 rfl vX4_104 (hK_9 hS) (by decide) (c_X4_fail (d := d) (M := M) (r := r) (w := 5) hS hT hC ho (by omega)) ?_
        rintro _ M9 ⟨rfl, h9⟩
        rw [h9]
        show Go (Ct (d + 1)) _ yX4_checkNested cX4_checkNested none 0 0 52 [some (.ref 9), some (.int (iI 0))] [] (rM M (fl T 5 r))
        refine r_ret dX4_checkNested_52 rfl ?_
        have en : nst G = gD G := by rw [nst, if_neg (fun q => b_20 (by rw [← haO]; exact q.2)), Nat.sub_zero]
        refine ⟨rfl, ?_⟩
        rw [cNs, if_pos (by omega)]
    · refine r_iconst (pc2 := 24) dX4_checkNested_23 rfl ?_
      refine r_goto (tgt := 28) dX4_checkNested_24 (by decide) ?_
      refine r_istore1 (pc2 := 29) dX4_checkNested_28 rfl rfl ?_
      refine r_aload0 (pc2 := 30) dX4_checkNested_29 rfl ?_
      refine r_getI (z := ((gD G : Nat) : Int)) (pc2 := 33) dX4_checkNested_30 rfl (Or.inl fX4_54) (hK_9 hS) hG.2.2.1 ?_
      refine r_iload1 (pc2 := 34) dX4_checkNested_33 rfl ?_
      refine r_ifeq (tgt := 41) (pc2 := 37) dX4_checkNested_34 rfl (by decide) ⟨by omega, by omega⟩ (fun h9 => absurd h9 (by decide)) (fun _ => ?_)
      refine r_iconst (pc2 := 38) dX4_checkNested_37 rfl ?_
      refine r_goto (tgt := 42) dX4_checkNested_38 (by decide) ?_
      refine r_isub (c := (((gD G : Nat) : Int) - 1)) (pc2 := 43) dX4_checkNested_42 rfl rfl ?_
      refine r_iconst (pc2 := 44) dX4_checkNested_43 rfl ?_
      refine r_iclt (tgt := 52) (pc2 := 47) dX4_checkNested_44 rfl (by decide) ⟨by omega, by omega⟩ ⟨by omega, by omega⟩ (fun b_44 => ?_) (fun b_44 => ?_)
      · refine r_ret dX4_checkNested_52 rfl ?_
        have en : nst G = gD G - 1 := by rw [nst, if_pos ⟨by omega, by omega⟩]
        refine ⟨rfl, ?_⟩
        rw [cNs, if_neg (by omega)]
      · refine r_aload0 (pc2 := 48) dX4_checkNested_47 rfl ?_
        refine r_iconst (pc2 := 49) dX4_checkNested_48 rfl ?_
        refine r_cv1 (pc2 := 52) dX4_checkNested_49 rfl vX4_104 (hK_9 hS) (by decide) (c_X4_fail (d := d) (M := M) (r := r) (w := 5) hS hT hC ho (by omega)) ?_
        rintro _ M9 ⟨rfl, h9⟩
        rw [h9]
        show Go (Ct (d + 1)) _ yX4_checkNested cX4_checkNested none 0 0 52 [some (.ref 9), some (.int (iI 1))] [] (rM M (fl T 5 r))
        refine r_ret dX4_checkNested_52 rfl ?_
        have en : nst G = gD G - 1 := by rw [nst, if_pos ⟨by omega, by omega⟩]
        refine ⟨rfl, ?_⟩
        rw [cNs, if_pos (by omega)]
set_option maxHeartbeats 4000000 in
theorem c_X4_readOpen {d : Nat} {M : pM} {T : tD} {r : rdT} {G : gPr} {i : Int} (hS : sOk M.1) (hT : tOk T) (hC : cT M T) (ho : rOk T r) (hG3 : M.2.1 9 13 = ((gD G : Nat) : Int)) (hd5b : gD G ≤ 5) (hd5 : (rK T 40 r).2 = 0 → gD G < 5) : Ct (d + 3) 0 0 yX4_readOpen [.ref 9, .int (iI i)] (rM M r) (fun v M2 => v = none ∧ (((rK T 40 r).2 = 0 ∧ M2 = rM (pI (pI M 18 (gD G) i) 9 13 (((gD G + 1 : Nat)) : Int)) (rK T 40 r)) ∨ (¬ (rK T 40 r).2 = 0 ∧ M2 = rM M (rK T 40 r)))) := by
  refine ct_in (d := (d + 2)) kX4_readOpen rfl (by decide) (Nat.le_of_ble_eq_true rfl) (by decide) ?_
  show Go (Ct (d + 2)) _ yX4_readOpen cX4_readOpen none 0 0 0 [some (.ref 9), some (.int (iI i))] [] (rM M r)
  have hT1 := hT.1
  have ho1 := ho.1
  have ho2 := ho.2.1
  have ho3 := ho.2.2
  have hkr := (ho.K hT (k := 40)).2
  have hd6 : gD G ≤ 5 := hd5b
  refine r_aload0 (pc2 := 1) dX4_readOpen_0 rfl ?_
  refine r_bipush (pc2 := 3) dX4_readOpen_1 rfl (by decide) (by decide) ?_
  refine r_cv1 (pc2 := 6) dX4_readOpen_3 rfl vX4_115 (hK_9 hS) (by decide) (c_X4_readKind (d := d) (M := M) (r := r) (k := 40) hS hT hC ho ⟨by omega, by omega⟩) ?_
  rintro _ M9 ⟨rfl, h9⟩
  rw [h9]
  show Go (Ct (d + 2)) _ yX4_readOpen cX4_readOpen none 0 0 6 [some (.ref 9), some (.int (iI i))] [] (rM M (rK T 40 r))
  refine r_aload0 (pc2 := 7) dX4_readOpen_6 rfl ?_
  refine r_getI (z := (rK T 40 r).2) (pc2 := 10) dX4_readOpen_7 rfl (Or.inl fX4_57) (hK_9 hS) rM_f ?_
  refine r_ifne (tgt := 45) (pc2 := 13) dX4_readOpen_10 rfl (by decide) ⟨by omega, by omega⟩ (fun b_10 => ?_) (fun b_10 => ?_)
  · refine r_ret dX4_readOpen_45 rfl ?_
    exact ⟨rfl, Or.inr ⟨b_10, rfl⟩⟩
  · refine r_aload0 (pc2 := 14) dX4_readOpen_13 rfl ?_
    refine r_getI (z := ((gD G : Nat) : Int)) (pc2 := 17) dX4_readOpen_14 rfl (Or.inl fX4_54) (hK_9 hS) hG3 ?_
    refine r_aload0 (pc2 := 18) dX4_readOpen_17 rfl ?_
    refine r_getR (pc2 := 21) dX4_readOpen_18 rfl fX4_37 (hK_9 hS) (hR_9_9 hS) ?_
    refine r_alen (pc2 := 22) dX4_readOpen_21 rfl (hK_18 hS) (by decide) ?_
    refine r_icge (tgt := 45) (pc2 := 25) dX4_readOpen_22 rfl (by decide) ⟨by omega, by omega⟩ ⟨by omega, by omega⟩ (fun b_22 => ?_) (fun b_22 => ?_)
    · refine r_ret dX4_readOpen_45 rfl ?_
      exact absurd b_22 (by have := hd5 (by omega); omega)
    · refine r_aload0 (pc2 := 26) dX4_readOpen_25 rfl ?_
      refine r_getR (pc2 := 29) dX4_readOpen_26 rfl fX4_37 (hK_9 hS) (hR_9_9 hS) ?_
      refine r_aload0 (pc2 := 30) dX4_readOpen_29 rfl ?_
      refine r_getI (z := ((gD G : Nat) : Int)) (pc2 := 33) dX4_readOpen_30 rfl (Or.inl fX4_54) (hK_9 hS) hG3 ?_
      refine r_iload1 (pc2 := 34) dX4_readOpen_33 rfl ?_
      refine r_iast (z := i) (pc2 := 35) dX4_readOpen_34 rfl (hK_18 hS) (by decide) (gD G) rfl (by omega) ?_
      refine r_aload0 (pc2 := 36) dX4_readOpen_35 rfl ?_
      refine r_dup (pc2 := 37) dX4_readOpen_36 rfl rfl ?_
      refine r_getI (z := ((gD G : Nat) : Int)) (pc2 := 40) dX4_readOpen_37 rfl (Or.inl fX4_54) (hK_9 hS) hG3 ?_
      refine r_iconst (pc2 := 41) dX4_readOpen_40 rfl ?_
      refine r_iadd (c := (((gD G + 1) : Nat) : Int)) (pc2 := 42) dX4_readOpen_41 rfl (by omega) ?_
      refine r_putI (z := (((gD G + 1) : Nat) : Int)) (pc2 := 45) dX4_readOpen_42 rfl fX4_54 (w4_13 _) (hK_9 hS) (by decide) ?_
      refine r_ret dX4_readOpen_45 rfl ?_
      refine ⟨rfl, Or.inl ⟨by omega, ?_⟩⟩
      rw [rM_o (by omega), rM_o (by omega)]
set_option maxHeartbeats 4000000 in
theorem c_X4_write {d : Nat} {M : pM} {i : Nat} {x y z w : Int} (hS : sOk M.1) (hi : i < 125) : Ct (d + 1) 0 0 yX4_write [.ref 9, .int (iI ((i : Nat) : Int)), .int (iI x), .int (iI y), .int (iI z), .int (iI w)] M (fun v M2 => v = none ∧ M2 = pI (pI (pI (pI M 12 i x) 13 i y) 14 i z) 15 i w) := by
  refine ct_in (d := d) kX4_write rfl (by decide) (Nat.le_of_ble_eq_true rfl) (by decide) ?_
  show Go (Ct d) _ yX4_write cX4_write none 0 0 0 [some (.ref 9), some (.int (iI ((i : Nat) : Int))), some (.int (iI x)), some (.int (iI y)), some (.int (iI z)), some (.int (iI w))] [] M
  refine r_aload0 (pc2 := 1) dX4_write_0 rfl ?_
  refine r_getR (pc2 := 4) dX4_write_1 rfl fX4_18 (hK_9 hS) (hR_9_3 hS) ?_
  refine r_iload1 (pc2 := 5) dX4_write_4 rfl ?_
  refine r_iload2 (pc2 := 6) dX4_write_5 rfl ?_
  refine r_iast (z := x) (pc2 := 7) dX4_write_6 rfl (hK_12 hS) (by decide) i rfl (by omega) ?_
  refine r_aload0 (pc2 := 8) dX4_write_7 rfl ?_
  refine r_getR (pc2 := 11) dX4_write_8 rfl fX4_21 (hK_9 hS) (hR_9_4 hS) ?_
  refine r_iload1 (pc2 := 12) dX4_write_11 rfl ?_
  refine r_iload3 (pc2 := 13) dX4_write_12 rfl ?_
  refine r_iast (z := y) (pc2 := 14) dX4_write_13 rfl (hK_13 hS) (by decide) i rfl (by omega) ?_
  refine r_aload0 (pc2 := 15) dX4_write_14 rfl ?_
  refine r_getR (pc2 := 18) dX4_write_15 rfl fX4_24 (hK_9 hS) (hR_9_5 hS) ?_
  refine r_iload1 (pc2 := 19) dX4_write_18 rfl ?_
  refine r_iload4 (pc2 := 21) dX4_write_19 rfl ?_
  refine r_iast (z := z) (pc2 := 22) dX4_write_21 rfl (hK_14 hS) (by decide) i rfl (by omega) ?_
  refine r_aload0 (pc2 := 23) dX4_write_22 rfl ?_
  refine r_getR (pc2 := 26) dX4_write_23 rfl fX4_27 (hK_9 hS) (hR_9_6 hS) ?_
  refine r_iload1 (pc2 := 27) dX4_write_26 rfl ?_
  refine r_iload5 (pc2 := 29) dX4_write_27 rfl ?_
  refine r_iast (z := w) (pc2 := 30) dX4_write_29 rfl (hK_15 hS) (by decide) i rfl (by omega) ?_
  refine r_ret dX4_write_30 rfl ?_
  exact ⟨rfl, rfl⟩
theorem c_X4_bg {d : Nat} {M : pM} {T : tD} {r : rdT} {G : gPr} {a : Int} (hS : sOk M.1) (hT : tOk T) (hC : cT M T) (ho : rOk T r) (hG : CG M G) (hg : gOk G) (h125 : gS G < 125) : Ct (d + 2) 0 0 yX4_begin [.ref 9, .int (iI a)] (rM M r) (fun v M2 => (r.2 = 0 ∧ v = some (.int (iI ((gS G : Nat) : Int))) ∧ M2 = rM (pI (pI (pI M 10 (gS G) a) 11 (gS G) (((gS G + 1 : Nat)) : Int)) 9 11 (((gS G + 1 : Nat)) : Int)) (av T r)) ∨ (¬ r.2 = 0 ∧ v = some (.int (iI 0)) ∧ M2 = rM M (av T r))) := by
  by_cases h : r.2 = 0
  · exact Ct_mono (fun v M2 q => Or.inl ⟨h, q.1, q.2⟩) (c_X4_begin (d := d) (G := G) (a := a) hS hT hC ho hG hg h h125)
  · exact Ct_mono (fun v M2 q => Or.inr ⟨h, q.1, by rw [av_n h]; exact q.2⟩) (c_X4_beginF (d := d) (G := G) (a := a) hS hT hC ho hG hg h h125)
