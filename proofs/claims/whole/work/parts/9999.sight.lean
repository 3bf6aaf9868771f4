/-! sight: both sides -/
abbrev sgk (n : Nat) (z w : Int) : Prop := 0 ≤ z ∧ z < 4 ∧ 0 ≤ w ∧ w ≤ 1000 ∧ n < 60
def sgC9 (M : pM) (n : Nat) (z w : Int) : pM := pI (pI (pI (pI M 271 n z) 272 n w) 270 6 (((n + 1 : Nat) : Int))) 270 8 (-1)
def sgM9 (M : pM) (n : Nat) (z w : Int) : pM := pI (pI (pI (pI M 317 0 0) 347 n z) 348 n w) 317 48 (((n + 1 : Nat) : Int))
theorem sgC.ad {M : pM} {n : Nat} {ho : Nat → Nat} {hw : Nat → Int} {z w : Int} (h : sgC M n ho hw) (hk : sgk n z w) : sgC (sgC9 M n z w) (n + 1) (va_up ho n z.toNat) (va_up hw n w) := by
  have h5 := hk.2.2.2.2
  have e1 : (sgC9 M n z w).2.1 271 = va_up (M.2.1 271) n z := by unfold sgC9; rw [pI_ne (by decide), pI_ne (by decide), pI_ne (by decide), pI_eq]
  have e2 : (sgC9 M n z w).2.1 272 = va_up (M.2.1 272) n w := by unfold sgC9; rw [pI_ne (by decide), pI_ne (by decide), pI_eq, pI_ne (by decide)]
  refine ⟨?_, by omega, fun i hi => ?_⟩
  · unfold sgC9; rw [pI_nk (by decide), pI_at]
  · rw [e1, e2]
    by_cases e : i = n
    · subst e
      rw [up_at, up_at, up_at, up_at]
      exact ⟨by omega, rfl, by unfold inR; omega⟩
    · rw [up_ne e, up_ne e, up_ne e, up_ne e]
      exact h.2.2 i (by omega)
theorem sgM.ad {M : pM} {n : Nat} {ho : Nat → Nat} {hw : Nat → Int} {z w : Int} (h : sgM M n ho hw) (hk : sgk n z w) : sgM (sgM9 M n z w) (n + 1) (va_up ho n z.toNat) (va_up hw n w) := by
  have h5 := hk.2.2.2.2
  have e1 : (sgM9 M n z w).2.1 347 = va_up (M.2.1 347) n z := by unfold sgM9; rw [pI_ne (by decide), pI_ne (by decide), pI_eq, pI_ne (by decide)]
  have e2 : (sgM9 M n z w).2.1 348 = va_up (M.2.1 348) n w := by unfold sgM9; rw [pI_ne (by decide), pI_eq, pI_ne (by decide), pI_ne (by decide)]
  refine ⟨?_, by omega, fun i hi => ?_⟩
  · unfold sgM9; rw [pI_at]
  · rw [e1, e2]
    by_cases e : i = n
    · subst e
      rw [up_at, up_at, up_at, up_at]
      exact ⟨by omega, rfl, by unfold inR; omega⟩
    · rw [up_ne e, up_ne e, up_ne e, up_ne e]
      exact h.2.2 i (by omega)
set_option maxHeartbeats 4000000 in
theorem c_X7_forget {d : Nat} {M : pM}  (hS : sOk M.1) : Ct (d + 1) 0 0 yX7_forget [.ref 270] M (fun v M2 => v = none ∧ M2 = pI (pI M 270 6 0) 270 8 (-1)) := by
  refine ct_in (d := d) kX7_forget rfl (by decide) (Nat.le_of_ble_eq_true rfl) (by decide) ?_
  show Go (Ct d) _ yX7_forget cX7_forget none 0 0 0 [some (.ref 270)] [] M
  refine r_aload0 (pc2 := 1) dX7_forget_0 rfl ?_
  refine r_iconst (pc2 := 2) dX7_forget_1 rfl ?_
  refine r_putI (z := 0) (pc2 := 5) dX7_forget_2 rfl fX7_35 (w7_6 _) (hK_270 hS) (by decide) ?_
  refine r_aload0 (pc2 := 6) dX7_forget_5 rfl ?_
  refine r_iconst (pc2 := 7) dX7_forget_6 rfl ?_
  refine r_putI (z := (-1)) (pc2 := 10) dX7_forget_7 rfl fX7_31 (w7_8 _) (hK_270 hS) (by decide) ?_
  refine r_ret dX7_forget_10 rfl ?_
  exact ⟨rfl, rfl⟩
set_option maxHeartbeats 4000000 in
theorem c_X7_tell {d : Nat} {M : pM} {z w : Int} {n : Nat} (hS : sOk M.1) (hz : 0 ≤ z ∧ z < 4) (hw : inR w) (hn : M.2.1 270 6 = (n : Int)) (hn2 : n ≤ 60) : Ct (d + 1) 0 0 yX7_tell [.ref 270, .int (iI z), .int (iI w)] M (fun v M2 => (¬ sgk n z w ∧ v = some (.int (iI (-1))) ∧ M2 = M) ∨ (sgk n z w ∧ v = some (.int (iI ((n : Nat) : Int))) ∧ M2 = sgC9 M n z w)) := by
  refine ct_in (d := d) kX7_tell rfl (by decide) (Nat.le_of_ble_eq_true rfl) (by decide) ?_
  show Go (Ct d) _ yX7_tell cX7_tell (some .int) 0 0 0 [some (.ref 270), some (.int (iI z)), some (.int (iI w))] [] M
  unfold inR at hw
  refine r_iload2 (pc2 := 1) dX7_tell_0 rfl ?_
  refine r_iflt (tgt := 20) (pc2 := 4) dX7_tell_1 rfl (by decide) ⟨by omega, by omega⟩ (fun b_1 => ?_) (fun b_1 => ?_)
  · refine r_iconst (pc2 := 21) dX7_tell_20 rfl ?_
    refine r_ireti dX7_tell_21 rfl ?_
    exact Or.inl ⟨fun q => by have := q.2.2; omega, rfl, rfl⟩
  · refine r_iload2 (pc2 := 5) dX7_tell_4 rfl ?_
    refine r_sipush (pc2 := 8) dX7_tell_5 rfl (by decide) (by decide) ?_
    refine r_icgt (tgt := 20) (pc2 := 11) dX7_tell_8 rfl (by decide) ⟨by omega, by omega⟩ ⟨by omega, by omega⟩ (fun b_8 => ?_) (fun b_8 => ?_)
    · refine r_iconst (pc2 := 21) dX7_tell_20 rfl ?_
      refine r_ireti dX7_tell_21 rfl ?_
      exact Or.inl ⟨fun q => by have := q.2.2; omega, rfl, rfl⟩
    · refine r_aload0 (pc2 := 12) dX7_tell_11 rfl ?_
      refine r_getI (z := ((n : Nat) : Int)) (pc2 := 15) dX7_tell_12 rfl (Or.inl fX7_35) (hK_270 hS) hn ?_
      refine r_bipush (pc2 := 17) dX7_tell_15 rfl (by decide) (by decide) ?_
      refine r_iclt (tgt := 22) (pc2 := 20) dX7_tell_17 rfl (by decide) ⟨by omega, by omega⟩ ⟨by omega, by omega⟩ (fun b_17 => ?_) (fun b_17 => ?_)
      · refine r_aload0 (pc2 := 23) dX7_tell_22 rfl ?_
        refine r_getR (pc2 := 26) dX7_tell_23 rfl fX7_11 (hK_270 hS) (hR_270_0 hS) ?_
        refine r_aload0 (pc2 := 27) dX7_tell_26 rfl ?_
        refine r_getI (z := ((n : Nat) : Int)) (pc2 := 30) dX7_tell_27 rfl (Or.inl fX7_35) (hK_270 hS) hn ?_
        refine r_iload1 (pc2 := 31) dX7_tell_30 rfl ?_
        refine r_iast (z := z) (pc2 := 32) dX7_tell_31 rfl (hK_271 hS) (by decide) n rfl (by omega) ?_
        refine r_aload0 (pc2 := 33) dX7_tell_32 rfl ?_
        refine r_getR (pc2 := 36) dX7_tell_33 rfl fX7_15 (hK_270 hS) (hR_270_1 hS) ?_
        refine r_aload0 (pc2 := 37) dX7_tell_36 rfl ?_
        refine r_getI (z := ((n : Nat) : Int)) (pc2 := 40) dX7_tell_37 rfl (Or.inl fX7_35) (hK_270 hS) hn ?_
        refine r_iload2 (pc2 := 41) dX7_tell_40 rfl ?_
        refine r_iast (z := w) (pc2 := 42) dX7_tell_41 rfl (hK_272 hS) (by decide) n rfl (by omega) ?_
        refine r_aload0 (pc2 := 43) dX7_tell_42 rfl ?_
        refine r_dup (pc2 := 44) dX7_tell_43 rfl rfl ?_
        refine r_getI (z := ((n : Nat) : Int)) (pc2 := 47) dX7_tell_44 rfl (Or.inl fX7_35) (hK_270 hS) hn ?_
        refine r_iconst (pc2 := 48) dX7_tell_47 rfl ?_
        refine r_iadd (c := ((n + 1 : Nat) : Int)) (pc2 := 49) dX7_tell_48 rfl (by omega) ?_
        refine r_putI (z := ((n + 1 : Nat) : Int)) (pc2 := 52) dX7_tell_49 rfl fX7_35 (w7_6 _) (hK_270 hS) (by decide) ?_
        refine r_aload0 (pc2 := 53) dX7_tell_52 rfl ?_
        refine r_iconst (pc2 := 54) dX7_tell_53 rfl ?_
        refine r_putI (z := (-1)) (pc2 := 57) dX7_tell_54 rfl fX7_31 (w7_8 _) (hK_270 hS) (by decide) ?_
        refine r_aload0 (pc2 := 58) dX7_tell_57 rfl ?_
        refine r_getI (z := ((n + 1 : Nat) : Int)) (pc2 := 61) dX7_tell_58 rfl (Or.inl fX7_35) (hK_270 hS) rfl ?_
        refine r_iconst (pc2 := 62) dX7_tell_61 rfl ?_
        refine r_isub (c := ((n : Nat) : Int)) (pc2 := 63) dX7_tell_62 rfl (by omega) ?_
        refine r_ireti dX7_tell_63 rfl ?_
        exact Or.inr ⟨⟨hz.1, hz.2, by omega, by omega, by omega⟩, rfl, rfl⟩
      · refine r_iconst (pc2 := 21) dX7_tell_20 rfl ?_
        refine r_ireti dX7_tell_21 rfl ?_
        exact Or.inl ⟨fun q => by have := q.2.2; omega, rfl, rfl⟩
set_option maxHeartbeats 4000000 in
theorem c_X11_sight {d : Nat} {M : pM} {z w : Int} {n : Nat} (hS : sOk M.1) (hzr : inR z) (hwr : inR w) (hn : M.2.1 270 6 = (n : Int)) (hn2 : n ≤ 60) : Ct (d + 2) 0 0 yX11_sight [.ref 2, .int (iI z), .int (iI w)] M (fun v M2 => (z = -1 ∧ v = some (.int (iI 0)) ∧ M2 = pI (pI M 270 6 0) 270 8 (-1)) ∨ (z ≠ -1 ∧ ¬ sgk n z w ∧ v = some (.int (iI (-1))) ∧ M2 = M) ∨ (z ≠ -1 ∧ sgk n z w ∧ v = some (.int (iI ((n : Nat) : Int))) ∧ M2 = sgC9 M n z w)) := by
  refine ct_in (d := (d + 1)) kX11_sight rfl (by decide) (Nat.le_of_ble_eq_true rfl) (by decide) ?_
  show Go (Ct (d + 1)) _ yX11_sight cX11_sight (some .int) 0 0 0 [some (.ref 2), some (.int (iI z)), some (.int (iI w))] [] M
  have hzr2 := hzr
  unfold inR at hzr2
  refine r_iload1 (pc2 := 1) dX11_sight_0 rfl ?_
  refine r_iconst (pc2 := 2) dX11_sight_1 rfl ?_
  refine r_icne (tgt := 14) (pc2 := 5) dX11_sight_2 rfl (by decide) ⟨by omega, by omega⟩ ⟨by omega, by omega⟩ (fun b_2 => ?_) (fun b_2 => ?_)
  · refine r_iload1 (pc2 := 15) dX11_sight_14 rfl ?_
    refine r_cs1 (pc2 := 18) dX11_sight_15 rfl sX11_155 (by decide) (c_X11_isHopper (d := d) (h := z) hzr) ?_
    by_cases hz : 0 ≤ z ∧ z < 4
    · rintro _ M9 ⟨rfl, h9⟩
      rw [h9, show (if 0 ≤ z ∧ z < 4 then (1 : Int) else 0) = 1 from if_pos hz]
      show Go (Ct (d + 1)) _ yX11_sight cX11_sight (some .int) 0 0 18 [some (.ref 2), some (.int (iI z)), some (.int (iI w))] [.int (iI 1)] M
      refine r_ifeq (tgt := 33) (pc2 := 21) dX11_sight_18 rfl (by decide) ⟨by omega, by omega⟩ (fun h9 => absurd h9 (by decide)) (fun _ => ?_)
      refine r_aload0 (pc2 := 22) dX11_sight_21 rfl ?_
      refine r_getR (pc2 := 25) dX11_sight_22 rfl fX11_94 (hK_2 hS) (hR_2_12 hS) ?_
      refine r_iload1 (pc2 := 26) dX11_sight_25 rfl ?_
      refine r_iload2 (pc2 := 27) dX11_sight_26 rfl ?_
      refine r_cv2 (pc2 := 30) dX11_sight_27 rfl vX11_221 (hK_270 hS) (by decide) (c_X7_tell (d := d) (z := z) (w := w) (n := n) hS hz hwr hn hn2) ?_
      by_cases hk : sgk n z w
      · rintro _ M9 q9
        obtain ⟨rfl, h9⟩ := q9.resolve_left (fun a => a.1 hk) |>.2
        show Go (Ct (d + 1)) _ yX11_sight cX11_sight (some .int) 0 0 30 [some (.ref 2), some (.int (iI z)), some (.int (iI w))] [.int (iI ((n : Nat) : Int))] M9
        refine r_goto (tgt := 34) dX11_sight_30 (by decide) ?_
        refine r_ireti dX11_sight_34 rfl ?_
        exact Or.inr (Or.inr ⟨by omega, hk, rfl, h9⟩)
      · rintro _ M9 q9
        obtain ⟨rfl, h9⟩ := q9.resolve_right (fun a => hk a.1) |>.2
        show Go (Ct (d + 1)) _ yX11_sight cX11_sight (some .int) 0 0 30 [some (.ref 2), some (.int (iI z)), some (.int (iI w))] [.int (iI (-1))] M9
        refine r_goto (tgt := 34) dX11_sight_30 (by decide) ?_
        refine r_ireti dX11_sight_34 rfl ?_
        exact Or.inr (Or.inl ⟨by omega, hk, rfl, h9⟩)
    · rintro _ M9 ⟨rfl, h9⟩
      rw [h9, show (if 0 ≤ z ∧ z < 4 then (1 : Int) else 0) = 0 from if_neg hz]
      show Go (Ct (d + 1)) _ yX11_sight cX11_sight (some .int) 0 0 18 [some (.ref 2), some (.int (iI z)), some (.int (iI w))] [.int (iI 0)] M
      refine r_ifeq (tgt := 33) (pc2 := 21) dX11_sight_18 rfl (by decide) ⟨by omega, by omega⟩ (fun _ => ?_) (fun h9 => absurd h9 (by decide))
      refine r_iconst (pc2 := 34) dX11_sight_33 rfl ?_
      refine r_ireti dX11_sight_34 rfl ?_
      exact Or.inr (Or.inl ⟨by omega, fun q => hz ⟨q.1, q.2.1⟩, rfl, rfl⟩)
  · refine r_aload0 (pc2 := 6) dX11_sight_5 rfl ?_
    refine r_getR (pc2 := 9) dX11_sight_6 rfl fX11_94 (hK_2 hS) (hR_2_12 hS) ?_
    refine r_cv0 (pc2 := 12) dX11_sight_9 rfl vX11_218 (hK_270 hS) (by decide) (c_X7_forget (d := d) hS) ?_
    rintro _ M9 ⟨rfl, h9⟩
    show Go (Ct (d + 1)) _ yX11_sight cX11_sight (some .int) 0 0 12 [some (.ref 2), some (.int (iI z)), some (.int (iI w))] [] M9
    refine r_iconst (pc2 := 13) dX11_sight_12 rfl ?_
    refine r_ireti dX11_sight_13 rfl ?_
    exact Or.inl ⟨by omega, rfl, h9⟩
set_option maxHeartbeats 4000000 in
theorem c_X12_sight {d : Nat} {M : pM} {z w : Int} {n : Nat} (hS : sOk M.1) (hzr : inR z) (hwr : inR w) (hn : M.2.1 317 48 = (n : Int)) (hn2 : n ≤ 60) : Ct (d + 2) 0 0 yX12_sight [.ref 317, .int (iI z), .int (iI w)] M (fun v M2 => (z = -1 ∧ v = some (.int (iI 0)) ∧ M2 = pI (pI M 317 0 0) 317 48 0) ∨ (z ≠ -1 ∧ ¬ sgk n z w ∧ v = some (.int (iI (-1))) ∧ M2 = pI M 317 0 0) ∨ (z ≠ -1 ∧ sgk n z w ∧ v = some (.int (iI ((n : Nat) : Int))) ∧ M2 = sgM9 M n z w)) := by
  refine ct_in (d := (d + 1)) kX12_sight rfl (by decide) (Nat.le_of_ble_eq_true rfl) (by decide) ?_
  show Go (Ct (d + 1)) _ yX12_sight cX12_sight (some .int) 0 0 0 [some (.ref 317), some (.int (iI z)), some (.int (iI w))] [] M
  have hzr2 := hzr
  unfold inR at hzr2
  have hwr2 := hwr
  unfold inR at hwr2
  refine r_aload0 (pc2 := 1) dX12_sight_0 rfl ?_
  refine r_iconst (pc2 := 2) dX12_sight_1 rfl ?_
  refine r_putI (z := 0) (pc2 := 5) dX12_sight_2 rfl fX12_1 (w12_0 _) (hK_317 hS) (by decide) ?_
  refine r_iload1 (pc2 := 6) dX12_sight_5 rfl ?_
  refine r_iconst (pc2 := 7) dX12_sight_6 rfl ?_
  refine r_icne (tgt := 17) (pc2 := 10) dX12_sight_7 rfl (by decide) ⟨by omega, by omega⟩ ⟨by omega, by omega⟩ (fun b_7 => ?_) (fun b_7 => ?_)
  · refine r_iload1 (pc2 := 18) dX12_sight_17 rfl ?_
    refine r_cs1 (pc2 := 21) dX12_sight_18 rfl sX12_306 (by decide) (c_X12_isHopper (d := d) (h := z) hzr) ?_
    by_cases hz : 0 ≤ z ∧ z < 4
    · rintro _ M9 ⟨rfl, h9⟩
      rw [h9, show (if 0 ≤ z ∧ z < 4 then (1 : Int) else 0) = 1 from if_pos hz]
      show Go (Ct (d + 1)) _ yX12_sight cX12_sight (some .int) 0 0 21 [some (.ref 317), some (.int (iI z)), some (.int (iI w))] [.int (iI 1)] (pI M 317 0 0)
      refine r_ifeq (tgt := 44) (pc2 := 24) dX12_sight_21 rfl (by decide) ⟨by omega, by omega⟩ (fun h9 => absurd h9 (by decide)) (fun _ => ?_)
      refine r_iload2 (pc2 := 25) dX12_sight_24 rfl ?_
      refine r_iflt (tgt := 44) (pc2 := 28) dX12_sight_25 rfl (by decide) ⟨by omega, by omega⟩ (fun b_25 => ?_) (fun b_25 => ?_)
      · refine r_iconst (pc2 := 45) dX12_sight_44 rfl ?_
        refine r_ireti dX12_sight_45 rfl ?_
        exact Or.inr (Or.inl ⟨by omega, fun q => by have := q.2.2; omega, rfl, rfl⟩)
      · refine r_iload2 (pc2 := 29) dX12_sight_28 rfl ?_
        refine r_sipush (pc2 := 32) dX12_sight_29 rfl (by decide) (by decide) ?_
        refine r_icgt (tgt := 44) (pc2 := 35) dX12_sight_32 rfl (by decide) ⟨by omega, by omega⟩ ⟨by omega, by omega⟩ (fun b_32 => ?_) (fun b_32 => ?_)
        · refine r_iconst (pc2 := 45) dX12_sight_44 rfl ?_
          refine r_ireti dX12_sight_45 rfl ?_
          exact Or.inr (Or.inl ⟨by omega, fun q => by have := q.2.2; omega, rfl, rfl⟩)
        · refine r_aload0 (pc2 := 36) dX12_sight_35 rfl ?_
          refine r_getI (z := ((n : Nat) : Int)) (pc2 := 39) dX12_sight_36 rfl (Or.inl fX12_394) (hK_317 hS) hn ?_
          refine r_bipush (pc2 := 41) dX12_sight_39 rfl (by decide) (by decide) ?_
          refine r_icne (tgt := 46) (pc2 := 44) dX12_sight_41 rfl (by decide) ⟨by omega, by omega⟩ ⟨by omega, by omega⟩ (fun b_41 => ?_) (fun b_41 => ?_)
          · refine r_aload0 (pc2 := 47) dX12_sight_46 rfl ?_
            refine r_getR (pc2 := 50) dX12_sight_47 rfl fX12_144 (hK_317 hS) (hR_317_49 hS) ?_
            refine r_aload0 (pc2 := 51) dX12_sight_50 rfl ?_
            refine r_getI (z := ((n : Nat) : Int)) (pc2 := 54) dX12_sight_51 rfl (Or.inl fX12_394) (hK_317 hS) hn ?_
            refine r_iload1 (pc2 := 55) dX12_sight_54 rfl ?_
            refine r_iast (z := z) (pc2 := 56) dX12_sight_55 rfl (hK_347 hS) (by decide) n rfl (by omega) ?_
            refine r_aload0 (pc2 := 57) dX12_sight_56 rfl ?_
            refine r_getR (pc2 := 60) dX12_sight_57 rfl fX12_147 (hK_317 hS) (hR_317_50 hS) ?_
            refine r_aload0 (pc2 := 61) dX12_sight_60 rfl ?_
            refine r_getI (z := ((n : Nat) : Int)) (pc2 := 64) dX12_sight_61 rfl (Or.inl fX12_394) (hK_317 hS) hn ?_
            refine r_iload2 (pc2 := 65) dX12_sight_64 rfl ?_
            refine r_iast (z := w) (pc2 := 66) dX12_sight_65 rfl (hK_348 hS) (by decide) n rfl (by omega) ?_
            refine r_aload0 (pc2 := 67) dX12_sight_66 rfl ?_
            refine r_dup (pc2 := 68) dX12_sight_67 rfl rfl ?_
            refine r_getI (z := ((n : Nat) : Int)) (pc2 := 71) dX12_sight_68 rfl (Or.inl fX12_394) (hK_317 hS) hn ?_
            refine r_iconst (pc2 := 72) dX12_sight_71 rfl ?_
            refine r_iadd (c := ((n + 1 : Nat) : Int)) (pc2 := 73) dX12_sight_72 rfl (by omega) ?_
            refine r_putI (z := ((n + 1 : Nat) : Int)) (pc2 := 76) dX12_sight_73 rfl fX12_394 (w12_48 _) (hK_317 hS) (by decide) ?_
            refine r_aload0 (pc2 := 77) dX12_sight_76 rfl ?_
            refine r_getI (z := ((n + 1 : Nat) : Int)) (pc2 := 80) dX12_sight_77 rfl (Or.inl fX12_394) (hK_317 hS) rfl ?_
            refine r_iconst (pc2 := 81) dX12_sight_80 rfl ?_
            refine r_isub (c := ((n : Nat) : Int)) (pc2 := 82) dX12_sight_81 rfl (by omega) ?_
            refine r_ireti dX12_sight_82 rfl ?_
            exact Or.inr (Or.inr ⟨by omega, ⟨hz.1, hz.2, by omega, by omega, by omega⟩, rfl, rfl⟩)
          · refine r_iconst (pc2 := 45) dX12_sight_44 rfl ?_
            refine r_ireti dX12_sight_45 rfl ?_
            exact Or.inr (Or.inl ⟨by omega, fun q => by have := q.2.2; omega, rfl, rfl⟩)
    · rintro _ M9 ⟨rfl, h9⟩
      rw [h9, show (if 0 ≤ z ∧ z < 4 then (1 : Int) else 0) = 0 from if_neg hz]
      show Go (Ct (d + 1)) _ yX12_sight cX12_sight (some .int) 0 0 21 [some (.ref 317), some (.int (iI z)), some (.int (iI w))] [.int (iI 0)] (pI M 317 0 0)
      refine r_ifeq (tgt := 44) (pc2 := 24) dX12_sight_21 rfl (by decide) ⟨by omega, by omega⟩ (fun _ => ?_) (fun h9 => absurd h9 (by decide))
      refine r_iconst (pc2 := 45) dX12_sight_44 rfl ?_
      refine r_ireti dX12_sight_45 rfl ?_
      exact Or.inr (Or.inl ⟨by omega, fun q => hz ⟨q.1, q.2.1⟩, rfl, rfl⟩)
  · refine r_aload0 (pc2 := 11) dX12_sight_10 rfl ?_
    refine r_iconst (pc2 := 12) dX12_sight_11 rfl ?_
    refine r_putI (z := 0) (pc2 := 15) dX12_sight_12 rfl fX12_394 (w12_48 _) (hK_317 hS) (by decide) ?_
    refine r_iconst (pc2 := 16) dX12_sight_15 rfl ?_
    refine r_ireti dX12_sight_16 rfl ?_
    exact Or.inl ⟨by omega, rfl, rfl⟩
