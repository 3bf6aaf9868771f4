/-! wish: the class -/
def CWs (M : pM) (n : Nat) (W : Nat → Int) : Prop := M.2.1 266 3 = (n : Int) ∧ WL n (M.2.1 267) (M.2.1 268) W
def MWs (M : pM) (n : Nat) (W : Nat → Int) : Prop := M.2.1 317 45 = (n : Int) ∧ WL n (M.2.1 345) (M.2.1 346) W
def frPw (M M2 : pM) : Prop := fr [266, 267, 268] M M2 ∧ (∀ j, j ≠ 3 → j ≠ 4 → M2.2.1 266 j = M.2.1 266 j) ∧ M2.2.1 266 4 = 0
theorem frPw.i4 {M : pM} {n i : Nat} {x y z : Int} : frPw M (pI (pI (pI (pI M 266 3 x) 267 i y) 268 n z) 266 4 0) := ⟨(((fr.rf.I (by decide)).I (by decide)).I (by decide)).I (by decide), fun j h3 h4 => by rw [pI_nk h4, pI_ne (by decide), pI_ne (by decide), pI_nk h3], pI_at⟩
theorem frPw.i5 {M : pM} {n i : Nat} {x y z : Int} : frPw M (pI (pI (pI (pI M 267 i y) 268 n z) 266 3 x) 266 4 0) := ⟨(((fr.rf.I (by decide)).I (by decide)).I (by decide)).I (by decide), fun j h3 h4 => by rw [pI_nk h4, pI_nk h3, pI_ne (by decide), pI_ne (by decide)], pI_at⟩
theorem c4_7 {M : pM} {i j : Nat} {x y z : Int} : (pI (pI (pI (pI M 266 3 x) 267 i y) 268 j z) 266 4 0).2.1 267 = va_up (M.2.1 267) i y := by rw [pI_ne (by decide), pI_ne (by decide), pI_eq, pI_ne (by decide)]
theorem c4_8 {M : pM} {i j : Nat} {x y z : Int} : (pI (pI (pI (pI M 266 3 x) 267 i y) 268 j z) 266 4 0).2.1 268 = va_up (M.2.1 268) j z := by rw [pI_ne (by decide), pI_eq, pI_ne (by decide), pI_ne (by decide)]
theorem c5_7 {M : pM} {i j : Nat} {x y z : Int} : (pI (pI (pI (pI M 267 i y) 268 j z) 266 3 x) 266 4 0).2.1 267 = va_up (M.2.1 267) i y := by rw [pI_ne (by decide), pI_ne (by decide), pI_ne (by decide), pI_eq]
theorem c5_8 {M : pM} {i j : Nat} {x y z : Int} : (pI (pI (pI (pI M 267 i y) 268 j z) 266 3 x) 266 4 0).2.1 268 = va_up (M.2.1 268) j z := by rw [pI_ne (by decide), pI_ne (by decide), pI_eq, pI_ne (by decide)]
set_option maxHeartbeats 4000000 in
theorem c_X10_dropN {d : Nat} {M : pM} {n q : Nat} {z : Int} {W : Nat → Int} (hS : sOk M.1) (hw : CWs M n W) (hq : q < 156) (hz : M.2.1 20 q = z) (hr : 0 ≤ z ∧ z ≤ 9) (hno : ∀ i, i < n → M.2.1 267 i ≠ (q : Int)) : Ct (d + 2) 0 0 yX10_drop [.ref 266, .int (iI ((q : Nat) : Int)), .ref 19] M (fun v M2 => v = some (.int (iI (if wsT z then 1 else 0))) ∧ M2 = M) := by
  refine ct_in (d := (d + 1)) kX10_drop rfl (by decide) (Nat.le_of_ble_eq_true rfl) (by decide) ?_
  show Go (Ct (d + 1)) _ yX10_drop cX10_drop (some .boolean) 0 0 0 [some (.ref 266), some (.int (iI ((q : Nat) : Int))), some (.ref 19), none] [] M
  have hn := hw.1
  have hn2 := hw.2.1
  have hf : ∀ i, i < n → 0 ≤ M.2.1 267 i ∧ M.2.1 267 i < 156 := fun i hi => ⟨(hw.2.2.1 i hi).1, (hw.2.2.1 i hi).2.1⟩
  refine r_aload0 (pc2 := 1) dX10_drop_0 rfl ?_
  refine r_iload1 (pc2 := 2) dX10_drop_1 rfl ?_
  refine r_cv1 (pc2 := 5) dX10_drop_2 rfl vX10_21 (hK_266 hS) (by decide) (c_X10_indexOf (d := d) (n := n) (q := q) (k := n) hS hn hn2 hf hq (Nat.le_refl n) hno (fun c => absurd c (by omega))) ?_
  rintro _ M9 ⟨rfl, h9⟩
  rw [h9]
  show Go (Ct (d + 1)) _ yX10_drop cX10_drop (some .boolean) 0 0 5 [some (.ref 266), some (.int (iI ((q : Nat) : Int))), some (.ref 19), none] [.int (iI ((n : Nat) : Int))] M
  refine r_istore3 (pc2 := 6) dX10_drop_5 rfl rfl ?_
  refine r_iload3 (pc2 := 7) dX10_drop_6 rfl ?_
  refine r_aload0 (pc2 := 8) dX10_drop_7 rfl ?_
  refine r_getI (z := ((n : Nat) : Int)) (pc2 := 11) dX10_drop_8 rfl (Or.inl fX10_31) (hK_266 hS) hn ?_
  refine r_iclt (tgt := 20) (pc2 := 14) dX10_drop_11 rfl (by decide) ⟨by omega, by omega⟩ ⟨by omega, by omega⟩ (fun b_11 => ?_) (fun b_11 => ?_)
  · exact absurd b_11 (by omega)
  · refine r_aload2 (pc2 := 15) dX10_drop_14 rfl ?_
    refine r_iload1 (pc2 := 16) dX10_drop_15 rfl ?_
    refine r_cv1 (pc2 := 19) dX10_drop_16 rfl vX10_25 (hK_19 hS) (by decide) (c_X0_isTurning (d := d) (b := 19) (q := q) (z := z) hS isB_19 hq hz hr) ?_
    by_cases ht : z = 4 ∨ z = 9
    · rintro _ M9 ⟨rfl, h9⟩
      rw [h9, show (if z = 4 ∨ z = 9 then (1 : Int) else 0) = 1 from if_pos ht]
      show Go (Ct (d + 1)) _ yX10_drop cX10_drop (some .boolean) 0 0 19 [some (.ref 266), some (.int (iI ((q : Nat) : Int))), some (.ref 19), some (.int (iI ((n : Nat) : Int)))] [.int (iI 1)] M
      refine r_iretz dX10_drop_19 rfl (by omega) ?_
      exact ⟨(show (if wsT z then (1 : Int) else 0) = 1 from if_pos ht).symm ▸ rfl, rfl⟩
    · rintro _ M9 ⟨rfl, h9⟩
      rw [h9, show (if z = 4 ∨ z = 9 then (1 : Int) else 0) = 0 from if_neg ht]
      show Go (Ct (d + 1)) _ yX10_drop cX10_drop (some .boolean) 0 0 19 [some (.ref 266), some (.int (iI ((q : Nat) : Int))), some (.ref 19), some (.int (iI ((n : Nat) : Int)))] [.int (iI 0)] M
      refine r_iretz dX10_drop_19 rfl (by omega) ?_
      exact ⟨(show (if wsT z then (1 : Int) else 0) = 0 from if_neg ht).symm ▸ rfl, rfl⟩
set_option maxHeartbeats 4000000 in
theorem c_X10_dropY {d : Nat} {M : pM} {n q i : Nat} {z : Int} {W : Nat → Int} (hS : sOk M.1) (hw : CWs M (n + 1) W) (hq : q < 156) (hz : M.2.1 20 q = z) (hr : 0 ≤ z ∧ z ≤ 9) (hi : i < n + 1) (ei : M.2.1 267 i = (q : Int)) (hun : ∀ j, j < n + 1 → j ≠ i → M.2.1 267 j ≠ (q : Int)) : Ct (d + 2) 0 0 yX10_drop [.ref 266, .int (iI ((q : Nat) : Int)), .ref 19] M (fun v M2 => v = some (.int (iI 1)) ∧ CWs M2 n (va_up W q (-1)) ∧ frPw M M2) := by
  refine ct_in (d := (d + 1)) kX10_drop rfl (by decide) (Nat.le_of_ble_eq_true rfl) (by decide) ?_
  show Go (Ct (d + 1)) _ yX10_drop cX10_drop (some .boolean) 0 0 0 [some (.ref 266), some (.int (iI ((q : Nat) : Int))), some (.ref 19), none] [] M
  have hn := hw.1
  have hn2 := hw.2.1
  have hf : ∀ i, i < n + 1 → 0 ≤ M.2.1 267 i ∧ M.2.1 267 i < 156 := fun i hi => ⟨(hw.2.2.1 i hi).1, (hw.2.2.1 i hi).2.1⟩
  refine r_aload0 (pc2 := 1) dX10_drop_0 rfl ?_
  refine r_iload1 (pc2 := 2) dX10_drop_1 rfl ?_
  refine r_cv1 (pc2 := 5) dX10_drop_2 rfl vX10_21 (hK_266 hS) (by decide) (c_X10_indexOf (d := d) (n := n + 1) (q := q) (k := i) hS hn hn2 hf hq (by omega) (fun j hj => hun j (by omega) (by omega)) (fun _ => ei)) ?_
  rintro _ M9 ⟨rfl, h9⟩
  rw [h9]
  show Go (Ct (d + 1)) _ yX10_drop cX10_drop (some .boolean) 0 0 5 [some (.ref 266), some (.int (iI ((q : Nat) : Int))), some (.ref 19), none] [.int (iI ((i : Nat) : Int))] M
  refine r_istore3 (pc2 := 6) dX10_drop_5 rfl rfl ?_
  refine r_iload3 (pc2 := 7) dX10_drop_6 rfl ?_
  refine r_aload0 (pc2 := 8) dX10_drop_7 rfl ?_
  refine r_getI (z := ((n + 1 : Nat) : Int)) (pc2 := 11) dX10_drop_8 rfl (Or.inl fX10_31) (hK_266 hS) hn ?_
  refine r_iclt (tgt := 20) (pc2 := 14) dX10_drop_11 rfl (by decide) ⟨by omega, by omega⟩ ⟨by omega, by omega⟩ (fun b_11 => ?_) (fun b_11 => ?_)
  · refine r_aload0 (pc2 := 21) dX10_drop_20 rfl ?_
    refine r_dup (pc2 := 22) dX10_drop_21 rfl rfl ?_
    refine r_getI (z := ((n + 1 : Nat) : Int)) (pc2 := 25) dX10_drop_22 rfl (Or.inl fX10_31) (hK_266 hS) hn ?_
    refine r_iconst (pc2 := 26) dX10_drop_25 rfl ?_
    refine r_isub (c := ((n : Nat) : Int)) (pc2 := 27) dX10_drop_26 rfl (by omega) ?_
    refine r_putI (z := ((n : Nat) : Int)) (pc2 := 30) dX10_drop_27 rfl fX10_31 (w10_3 _) (hK_266 hS) (by decide) ?_
    refine r_aload0 (pc2 := 31) dX10_drop_30 rfl ?_
    refine r_getR (pc2 := 34) dX10_drop_31 rfl fX10_11 (hK_266 hS) (hR_266_0 hS) ?_
    refine r_iload3 (pc2 := 35) dX10_drop_34 rfl ?_
    refine r_aload0 (pc2 := 36) dX10_drop_35 rfl ?_
    refine r_getR (pc2 := 39) dX10_drop_36 rfl fX10_11 (hK_266 hS) (hR_266_0 hS) ?_
    refine r_aload0 (pc2 := 40) dX10_drop_39 rfl ?_
    refine r_getI (z := ((n : Nat) : Int)) (pc2 := 43) dX10_drop_40 rfl (Or.inl fX10_31) (hK_266 hS) rfl ?_
    refine r_iald (z := (M.2.1 267 (((n : Nat) : Int)).toNat)) (pc2 := 44) dX10_drop_43 rfl (hK_267 hS) (((n : Nat) : Int)).toNat (by omega) (by omega) rfl ?_
    refine r_iast (z := (M.2.1 267 (((n : Nat) : Int)).toNat)) (pc2 := 45) dX10_drop_44 rfl (hK_267 hS) (by decide) i rfl (by omega) ?_
    refine r_aload0 (pc2 := 46) dX10_drop_45 rfl ?_
    refine r_getR (pc2 := 49) dX10_drop_46 rfl fX10_15 (hK_266 hS) (hR_266_1 hS) ?_
    refine r_iload3 (pc2 := 50) dX10_drop_49 rfl ?_
    refine r_aload0 (pc2 := 51) dX10_drop_50 rfl ?_
    refine r_getR (pc2 := 54) dX10_drop_51 rfl fX10_15 (hK_266 hS) (hR_266_1 hS) ?_
    refine r_aload0 (pc2 := 55) dX10_drop_54 rfl ?_
    refine r_getI (z := ((n : Nat) : Int)) (pc2 := 58) dX10_drop_55 rfl (Or.inl fX10_31) (hK_266 hS) rfl ?_
    refine r_iald (z := (M.2.1 268 (((n : Nat) : Int)).toNat)) (pc2 := 59) dX10_drop_58 rfl (hK_268 hS) (((n : Nat) : Int)).toNat (by omega) (by omega) rfl ?_
    refine r_iast (z := (M.2.1 268 (((n : Nat) : Int)).toNat)) (pc2 := 60) dX10_drop_59 rfl (hK_268 hS) (by decide) i rfl (by omega) ?_
    refine r_aload0 (pc2 := 61) dX10_drop_60 rfl ?_
    refine r_iconst (pc2 := 62) dX10_drop_61 rfl ?_
    refine r_putZ (z := 0) (pc2 := 65) dX10_drop_62 rfl fX10_41 (w10_4 _) (hK_266 hS) (by decide) (by omega) ?_
    refine r_iconst (pc2 := 66) dX10_drop_65 rfl ?_
    refine r_iretz dX10_drop_66 rfl (by omega) ?_
    refine ⟨rfl, ⟨?_, ?_⟩, frPw.i4⟩
    · rw [pI_nk (by decide), pI_ne (by decide), pI_ne (by decide), pI_at]
    · refine hw.2.del (fun j => if j = i then n else j) hi ei (fun j hj => ?_) (fun j k hj hk e => ?_) (fun k hk hk2 => ?_)
      · rw [c4_7, c4_8]
        by_cases u : j = i
        · rw [if_pos u, u, up_at, up_at, Int.toNat_natCast]; exact ⟨rfl, rfl, by omega, by omega⟩
        · rw [if_neg u, up_ne u, up_ne u]; exact ⟨rfl, rfl, by omega, u⟩
      · by_cases u : j = i
        · by_cases u2 : k = i
          · omega
          · rw [if_pos u, if_neg u2] at e; omega
        · by_cases u2 : k = i
          · rw [if_neg u, if_pos u2] at e; omega
          · rw [if_neg u, if_neg u2] at e; exact e
      · by_cases u : k = n
        · exact ⟨i, by omega, by rw [if_pos rfl, u]⟩
        · exact ⟨k, by omega, by rw [if_neg hk2]⟩
  · refine r_aload2 (pc2 := 15) dX10_drop_14 rfl ?_
    refine r_iload1 (pc2 := 16) dX10_drop_15 rfl ?_
    refine r_cv1 (pc2 := 19) dX10_drop_16 rfl vX10_25 (hK_19 hS) (by decide) (c_X0_isTurning (d := d) (b := 19) (q := q) (z := z) hS isB_19 hq hz hr) ?_
    by_cases ht : z = 4 ∨ z = 9
    · rintro _ M9 ⟨rfl, h9⟩
      rw [h9, show (if z = 4 ∨ z = 9 then (1 : Int) else 0) = 1 from if_pos ht]
      show Go (Ct (d + 1)) _ yX10_drop cX10_drop (some .boolean) 0 0 19 [some (.ref 266), some (.int (iI ((q : Nat) : Int))), some (.ref 19), some (.int (iI ((i : Nat) : Int)))] [.int (iI 1)] M
      refine r_iretz dX10_drop_19 rfl (by omega) ?_
      exact absurd b_11 (by omega)
    · rintro _ M9 ⟨rfl, h9⟩
      rw [h9, show (if z = 4 ∨ z = 9 then (1 : Int) else 0) = 0 from if_neg ht]
      show Go (Ct (d + 1)) _ yX10_drop cX10_drop (some .boolean) 0 0 19 [some (.ref 266), some (.int (iI ((q : Nat) : Int))), some (.ref 19), some (.int (iI ((i : Nat) : Int)))] [.int (iI 0)] M
      refine r_iretz dX10_drop_19 rfl (by omega) ?_
      exact absurd b_11 (by omega)
set_option maxHeartbeats 4000000 in
theorem c_X10_setN {d : Nat} {M : pM} {n q : Nat} {z w : Int} {W : Nat → Int} (hS : sOk M.1) (hw : CWs M n W) (hq : q < 156) (hz : M.2.1 20 q = z) (hr : 0 ≤ z ∧ z ≤ 9) (hwr : 0 ≤ w ∧ w ≤ 1) (w0 : W q < 0) (hno : ∀ i, i < n → M.2.1 267 i ≠ (q : Int)) : Ct (d + 2) 0 0 yX10_set [.ref 266, .int (iI ((q : Nat) : Int)), .int (iI w), .ref 19] M (fun v M2 => (¬ (wsT z ∧ n < 12) ∧ v = some (.int (iI 0)) ∧ M2 = M) ∨ ((wsT z ∧ n < 12) ∧ v = some (.int (iI 1)) ∧ CWs M2 (n + 1) (va_up W q w) ∧ frPw M M2)) := by
  refine ct_in (d := (d + 1)) kX10_set rfl (by decide) (Nat.le_of_ble_eq_true rfl) (by decide) ?_
  show Go (Ct (d + 1)) _ yX10_set cX10_set (some .boolean) 0 0 0 [some (.ref 266), some (.int (iI ((q : Nat) : Int))), some (.int (iI w)), some (.ref 19), none] [] M
  have hn := hw.1
  have hn2 := hw.2.1
  have hf : ∀ i, i < n → 0 ≤ M.2.1 267 i ∧ M.2.1 267 i < 156 := fun i hi => ⟨(hw.2.2.1 i hi).1, (hw.2.2.1 i hi).2.1⟩
  refine r_aload0 (pc2 := 1) dX10_set_0 rfl ?_
  refine r_iload1 (pc2 := 2) dX10_set_1 rfl ?_
  refine r_cv1 (pc2 := 5) dX10_set_2 rfl vX10_21 (hK_266 hS) (by decide) (c_X10_indexOf (d := d) (n := n) (q := q) (k := n) hS hn hn2 hf hq (Nat.le_refl n) hno (fun c => absurd c (by omega))) ?_
  rintro _ M9 ⟨rfl, h9⟩
  rw [h9]
  show Go (Ct (d + 1)) _ yX10_set cX10_set (some .boolean) 0 0 5 [some (.ref 266), some (.int (iI ((q : Nat) : Int))), some (.int (iI w)), some (.ref 19), none] [.int (iI ((n : Nat) : Int))] M
  refine r_istore4 (pc2 := 7) dX10_set_5 rfl rfl ?_
  refine r_aload3 (pc2 := 8) dX10_set_7 rfl ?_
  refine r_iload1 (pc2 := 9) dX10_set_8 rfl ?_
  refine r_cv1 (pc2 := 12) dX10_set_9 rfl vX10_25 (hK_19 hS) (by decide) (c_X0_isTurning (d := d) (b := 19) (q := q) (z := z) hS isB_19 hq hz hr) ?_
  by_cases ht : z = 4 ∨ z = 9
  · rintro _ M9 ⟨rfl, h9⟩
    rw [h9, show (if z = 4 ∨ z = 9 then (1 : Int) else 0) = 1 from if_pos ht]
    show Go (Ct (d + 1)) _ yX10_set cX10_set (some .boolean) 0 0 12 [some (.ref 266), some (.int (iI ((q : Nat) : Int))), some (.int (iI w)), some (.ref 19), some (.int (iI ((n : Nat) : Int)))] [.int (iI 1)] M
    refine r_ifeq (tgt := 22) (pc2 := 15) dX10_set_12 rfl (by decide) ⟨by omega, by omega⟩ (fun h9 => absurd h9 (by decide)) (fun _ => ?_)
    refine r_iload4 (pc2 := 17) dX10_set_15 rfl ?_
    refine r_bipush (pc2 := 19) dX10_set_17 rfl (by decide) (by decide) ?_
    refine r_iclt (tgt := 24) (pc2 := 22) dX10_set_19 rfl (by decide) ⟨by omega, by omega⟩ ⟨by omega, by omega⟩ (fun b_19 => ?_) (fun b_19 => ?_)
    · refine r_aload0 (pc2 := 25) dX10_set_24 rfl ?_
      refine r_getR (pc2 := 28) dX10_set_25 rfl fX10_11 (hK_266 hS) (hR_266_0 hS) ?_
      refine r_iload4 (pc2 := 30) dX10_set_28 rfl ?_
      refine r_iload1 (pc2 := 31) dX10_set_30 rfl ?_
      refine r_iast (z := ((q : Nat) : Int)) (pc2 := 32) dX10_set_31 rfl (hK_267 hS) (by decide) n rfl (by omega) ?_
      refine r_aload0 (pc2 := 33) dX10_set_32 rfl ?_
      refine r_getR (pc2 := 36) dX10_set_33 rfl fX10_15 (hK_266 hS) (hR_266_1 hS) ?_
      refine r_iload4 (pc2 := 38) dX10_set_36 rfl ?_
      refine r_iload2 (pc2 := 39) dX10_set_38 rfl ?_
      refine r_iast (z := w) (pc2 := 40) dX10_set_39 rfl (hK_268 hS) (by decide) n rfl (by omega) ?_
      refine r_aload0 (pc2 := 41) dX10_set_40 rfl ?_
      refine r_aload0 (pc2 := 42) dX10_set_41 rfl ?_
      refine r_getI (z := ((n : Nat) : Int)) (pc2 := 45) dX10_set_42 rfl (Or.inl fX10_31) (hK_266 hS) hn ?_
      refine r_iload4 (pc2 := 47) dX10_set_45 rfl ?_
      refine r_iconst (pc2 := 48) dX10_set_47 rfl ?_
      refine r_iadd (c := ((n + 1 : Nat) : Int)) (pc2 := 49) dX10_set_48 rfl (by omega) ?_
      refine r_cs2 (pc2 := 52) dX10_set_49 rfl sX10_35 (Nat.le_of_ble_eq_true rfl) (c_J9_max_7cf53 (d := d) (x := ((n : Nat) : Int)) (z := ((n + 1 : Nat) : Int)) (by unfold inR; omega) (by unfold inR; omega)) ?_
      rintro _ M9 ⟨rfl, h9⟩
      rw [h9, show max ((n : Nat) : Int) (((n + 1 : Nat) : Int)) = ((n + 1 : Nat) : Int) by omega]
      show Go (Ct (d + 1)) _ yX10_set cX10_set (some .boolean) 0 0 52 [some (.ref 266), some (.int (iI ((q : Nat) : Int))), some (.int (iI w)), some (.ref 19), some (.int (iI ((n : Nat) : Int)))] [.int (iI ((n + 1 : Nat) : Int)), .ref 266] (pI (pI M 267 n ((q : Nat) : Int)) 268 n w)
      refine r_putI (z := ((n + 1 : Nat) : Int)) (pc2 := 55) dX10_set_52 rfl fX10_31 (w10_3 _) (hK_266 hS) (by decide) ?_
      refine r_aload0 (pc2 := 56) dX10_set_55 rfl ?_
      refine r_iconst (pc2 := 57) dX10_set_56 rfl ?_
      refine r_putZ (z := 0) (pc2 := 60) dX10_set_57 rfl fX10_41 (w10_4 _) (hK_266 hS) (by decide) (by omega) ?_
      refine r_iconst (pc2 := 61) dX10_set_60 rfl ?_
      refine r_iretz dX10_set_61 rfl (by omega) ?_
      refine Or.inr ⟨⟨ht, by omega⟩, rfl, ⟨?_, ?_⟩, frPw.i5⟩
      · rw [pI_nk (by decide), pI_at]
      · refine hw.2.ad (by omega) hq hwr w0 (fun j hj => ?_) ?_ ?_
        · rw [c5_7, c5_8, up_ne (by omega), up_ne (by omega)]; exact ⟨rfl, rfl⟩
        · rw [c5_7, up_at]
        · rw [c5_8, up_at]
    · refine r_iconst (pc2 := 23) dX10_set_22 rfl ?_
      refine r_iretz dX10_set_23 rfl (by omega) ?_
      exact Or.inl ⟨fun c => by have := c.2; omega, rfl, rfl⟩
  · rintro _ M9 ⟨rfl, h9⟩
    rw [h9, show (if z = 4 ∨ z = 9 then (1 : Int) else 0) = 0 from if_neg ht]
    show Go (Ct (d + 1)) _ yX10_set cX10_set (some .boolean) 0 0 12 [some (.ref 266), some (.int (iI ((q : Nat) : Int))), some (.int (iI w)), some (.ref 19), some (.int (iI ((n : Nat) : Int)))] [.int (iI 0)] M
    refine r_ifeq (tgt := 22) (pc2 := 15) dX10_set_12 rfl (by decide) ⟨by omega, by omega⟩ (fun _ => ?_) (fun h9 => absurd h9 (by decide))
    refine r_iconst (pc2 := 23) dX10_set_22 rfl ?_
    refine r_iretz dX10_set_23 rfl (by omega) ?_
    exact Or.inl ⟨fun c => ht c.1, rfl, rfl⟩
set_option maxHeartbeats 4000000 in
theorem c_X10_setY {d : Nat} {M : pM} {n q i : Nat} {z w : Int} {W : Nat → Int} (hS : sOk M.1) (hw : CWs M n W) (hq : q < 156) (hz : M.2.1 20 q = z) (hr : 0 ≤ z ∧ z ≤ 9) (hwr : 0 ≤ w ∧ w ≤ 1) (hi : i < n) (ei : M.2.1 267 i = (q : Int)) (hun : ∀ j, j < n → j ≠ i → M.2.1 267 j ≠ (q : Int)) : Ct (d + 2) 0 0 yX10_set [.ref 266, .int (iI ((q : Nat) : Int)), .int (iI w), .ref 19] M (fun v M2 => (¬ wsT z ∧ v = some (.int (iI 0)) ∧ M2 = M) ∨ (wsT z ∧ v = some (.int (iI 1)) ∧ CWs M2 n (va_up W q w) ∧ frPw M M2)) := by
  refine ct_in (d := (d + 1)) kX10_set rfl (by decide) (Nat.le_of_ble_eq_true rfl) (by decide) ?_
  show Go (Ct (d + 1)) _ yX10_set cX10_set (some .boolean) 0 0 0 [some (.ref 266), some (.int (iI ((q : Nat) : Int))), some (.int (iI w)), some (.ref 19), none] [] M
  have hn := hw.1
  have hn2 := hw.2.1
  have hf : ∀ i, i < n → 0 ≤ M.2.1 267 i ∧ M.2.1 267 i < 156 := fun i hi => ⟨(hw.2.2.1 i hi).1, (hw.2.2.1 i hi).2.1⟩
  refine r_aload0 (pc2 := 1) dX10_set_0 rfl ?_
  refine r_iload1 (pc2 := 2) dX10_set_1 rfl ?_
  refine r_cv1 (pc2 := 5) dX10_set_2 rfl vX10_21 (hK_266 hS) (by decide) (c_X10_indexOf (d := d) (n := n) (q := q) (k := i) hS hn hn2 hf hq (by omega) (fun j hj => hun j (by omega) (by omega)) (fun _ => ei)) ?_
  rintro _ M9 ⟨rfl, h9⟩
  rw [h9]
  show Go (Ct (d + 1)) _ yX10_set cX10_set (some .boolean) 0 0 5 [some (.ref 266), some (.int (iI ((q : Nat) : Int))), some (.int (iI w)), some (.ref 19), none] [.int (iI ((i : Nat) : Int))] M
  refine r_istore4 (pc2 := 7) dX10_set_5 rfl rfl ?_
  refine r_aload3 (pc2 := 8) dX10_set_7 rfl ?_
  refine r_iload1 (pc2 := 9) dX10_set_8 rfl ?_
  refine r_cv1 (pc2 := 12) dX10_set_9 rfl vX10_25 (hK_19 hS) (by decide) (c_X0_isTurning (d := d) (b := 19) (q := q) (z := z) hS isB_19 hq hz hr) ?_
  by_cases ht : z = 4 ∨ z = 9
  · rintro _ M9 ⟨rfl, h9⟩
    rw [h9, show (if z = 4 ∨ z = 9 then (1 : Int) else 0) = 1 from if_pos ht]
    show Go (Ct (d + 1)) _ yX10_set cX10_set (some .boolean) 0 0 12 [some (.ref 266), some (.int (iI ((q : Nat) : Int))), some (.int (iI w)), some (.ref 19), some (.int (iI ((i : Nat) : Int)))] [.int (iI 1)] M
    refine r_ifeq (tgt := 22) (pc2 := 15) dX10_set_12 rfl (by decide) ⟨by omega, by omega⟩ (fun h9 => absurd h9 (by decide)) (fun _ => ?_)
    refine r_iload4 (pc2 := 17) dX10_set_15 rfl ?_
    refine r_bipush (pc2 := 19) dX10_set_17 rfl (by decide) (by decide) ?_
    refine r_iclt (tgt := 24) (pc2 := 22) dX10_set_19 rfl (by decide) ⟨by omega, by omega⟩ ⟨by omega, by omega⟩ (fun b_19 => ?_) (fun b_19 => ?_)
    · refine r_aload0 (pc2 := 25) dX10_set_24 rfl ?_
      refine r_getR (pc2 := 28) dX10_set_25 rfl fX10_11 (hK_266 hS) (hR_266_0 hS) ?_
      refine r_iload4 (pc2 := 30) dX10_set_28 rfl ?_
      refine r_iload1 (pc2 := 31) dX10_set_30 rfl ?_
      refine r_iast (z := ((q : Nat) : Int)) (pc2 := 32) dX10_set_31 rfl (hK_267 hS) (by decide) i rfl (by omega) ?_
      refine r_aload0 (pc2 := 33) dX10_set_32 rfl ?_
      refine r_getR (pc2 := 36) dX10_set_33 rfl fX10_15 (hK_266 hS) (hR_266_1 hS) ?_
      refine r_iload4 (pc2 := 38) dX10_set_36 rfl ?_
      refine r_iload2 (pc2 := 39) dX10_set_38 rfl ?_
      refine r_iast (z := w) (pc2 := 40) dX10_set_39 rfl (hK_268 hS) (by decide) i rfl (by omega) ?_
      refine r_aload0 (pc2 := 41) dX10_set_40 rfl ?_
      refine r_aload0 (pc2 := 42) dX10_set_41 rfl ?_
      refine r_getI (z := ((n : Nat) : Int)) (pc2 := 45) dX10_set_42 rfl (Or.inl fX10_31) (hK_266 hS) hn ?_
      refine r_iload4 (pc2 := 47) dX10_set_45 rfl ?_
      refine r_iconst (pc2 := 48) dX10_set_47 rfl ?_
      refine r_iadd (c := ((i + 1 : Nat) : Int)) (pc2 := 49) dX10_set_48 rfl (by omega) ?_
      refine r_cs2 (pc2 := 52) dX10_set_49 rfl sX10_35 (Nat.le_of_ble_eq_true rfl) (c_J9_max_7cf53 (d := d) (x := ((n : Nat) : Int)) (z := ((i + 1 : Nat) : Int)) (by unfold inR; omega) (by unfold inR; omega)) ?_
      rintro _ M9 ⟨rfl, h9⟩
      rw [h9, show max ((n : Nat) : Int) (((i + 1 : Nat) : Int)) = ((n : Nat) : Int) by omega]
      show Go (Ct (d + 1)) _ yX10_set cX10_set (some .boolean) 0 0 52 [some (.ref 266), some (.int (iI ((q : Nat) : Int))), some (.int (iI w)), some (.ref 19), some (.int (iI ((i : Nat) : Int)))] [.int (iI ((n : Nat) : Int)), .ref 266] (pI (pI M 267 i ((q : Nat) : Int)) 268 i w)
      refine r_putI (z := ((n : Nat) : Int)) (pc2 := 55) dX10_set_52 rfl fX10_31 (w10_3 _) (hK_266 hS) (by decide) ?_
      refine r_aload0 (pc2 := 56) dX10_set_55 rfl ?_
      refine r_iconst (pc2 := 57) dX10_set_56 rfl ?_
      refine r_putZ (z := 0) (pc2 := 60) dX10_set_57 rfl fX10_41 (w10_4 _) (hK_266 hS) (by decide) (by omega) ?_
      refine r_iconst (pc2 := 61) dX10_set_60 rfl ?_
      refine r_iretz dX10_set_61 rfl (by omega) ?_
      refine Or.inr ⟨ht, rfl, ⟨?_, ?_⟩, frPw.i5⟩
      · rw [pI_nk (by decide), pI_at]
      · refine hw.2.pt hi ei hwr (fun j hj => ?_)
        rw [c5_7, c5_8]
        by_cases u : j = i
        · rw [if_pos u, u, up_at, up_at]; exact ⟨ei.symm, rfl⟩
        · rw [if_neg u, up_ne u, up_ne u]; exact ⟨rfl, rfl⟩
    · refine r_iconst (pc2 := 23) dX10_set_22 rfl ?_
      refine r_iretz dX10_set_23 rfl (by omega) ?_
      exact absurd b_19 (by omega)
  · rintro _ M9 ⟨rfl, h9⟩
    rw [h9, show (if z = 4 ∨ z = 9 then (1 : Int) else 0) = 0 from if_neg ht]
    show Go (Ct (d + 1)) _ yX10_set cX10_set (some .boolean) 0 0 12 [some (.ref 266), some (.int (iI ((q : Nat) : Int))), some (.int (iI w)), some (.ref 19), some (.int (iI ((i : Nat) : Int)))] [.int (iI 0)] M
    refine r_ifeq (tgt := 22) (pc2 := 15) dX10_set_12 rfl (by decide) ⟨by omega, by omega⟩ (fun _ => ?_) (fun h9 => absurd h9 (by decide))
    refine r_iconst (pc2 := 23) dX10_set_22 rfl ?_
    refine r_iretz dX10_set_23 rfl (by omega) ?_
    exact Or.inl ⟨ht, rfl, rfl⟩
def WCq (W : Nat → Int) (r : Int × Nat × (Nat → Int)) (M : pM) (v : Option Value) (M2 : pM) : Prop := v = some (.int (iI r.1)) ∧ CWs M2 r.2.1 r.2.2 ∧ ((M2 = M ∧ r.2.2 = W) ∨ frPw M M2)
theorem c_X10_drop {d : Nat} {M : pM} {n q : Nat} {z : Int} {W : Nat → Int} (hS : sOk M.1) (hw : CWs M n W) (hq : q < 156) (hz : M.2.1 20 q = z) (hr : 0 ≤ z ∧ z ≤ 9) : Ct (d + 2) 0 0 yX10_drop [.ref 266, .int (iI ((q : Nat) : Int)), .ref 19] M (WCq W (wsF z n W q 2) M) := by
  rcases hw.2.at_ hq with ⟨w0, hno⟩ | ⟨i, hi, ei, w0, hun⟩
  · refine Ct_mono ?_ (c_X10_dropN hS hw hq hz hr hno)
    rintro _ M2 ⟨rfl, rfl⟩
    rw [wsF, if_pos rfl, if_pos w0]
    by_cases t : wsT z
    · rw [if_pos t, if_pos t]; exact ⟨rfl, hw, Or.inl ⟨rfl, rfl⟩⟩
    · rw [if_neg t, if_neg t]; exact ⟨rfl, hw, Or.inl ⟨rfl, rfl⟩⟩
  · obtain ⟨m, rfl⟩ : ∃ m, n = m + 1 := ⟨n - 1, by omega⟩
    refine Ct_mono ?_ (c_X10_dropY hS hw hq hz hr hi ei hun)
    rintro _ M2 ⟨rfl, h1, h2⟩
    rw [wsF, if_pos rfl, if_neg (by omega)]
    exact ⟨rfl, h1, Or.inr h2⟩
theorem c_X10_set {d : Nat} {M : pM} {n q : Nat} {z w : Int} {W : Nat → Int} (hS : sOk M.1) (hw : CWs M n W) (hq : q < 156) (hz : M.2.1 20 q = z) (hr : 0 ≤ z ∧ z ≤ 9) (hwr : 0 ≤ w ∧ w ≤ 1) : Ct (d + 2) 0 0 yX10_set [.ref 266, .int (iI ((q : Nat) : Int)), .int (iI w), .ref 19] M (WCq W (wsF z n W q w) M) := by
  have hn2 := hw.2.1
  rcases hw.2.at_ hq with ⟨w0, hno⟩ | ⟨i, hi, ei, w0, hun⟩
  · refine Ct_mono ?_ (c_X10_setN hS hw hq hz hr hwr w0 hno)
    rintro _ M2 (⟨t, rfl, rfl⟩ | ⟨t, rfl, h1, h2⟩)
    · rw [wsF, if_neg (by omega)]
      by_cases u : wsT z
      · rw [if_pos u, if_pos w0, if_pos (by have : ¬ n < 12 := fun c => t ⟨u, c⟩; omega)]; exact ⟨rfl, hw, Or.inl ⟨rfl, rfl⟩⟩
      · rw [if_neg u]; exact ⟨rfl, hw, Or.inl ⟨rfl, rfl⟩⟩
    · rw [wsF, if_neg (by omega), if_pos t.1, if_pos w0, if_neg (by omega)]; exact ⟨rfl, h1, Or.inr h2⟩
  · refine Ct_mono ?_ (c_X10_setY hS hw hq hz hr hwr hi ei hun)
    rintro _ M2 (⟨t, rfl, rfl⟩ | ⟨t, rfl, h1, h2⟩)
    · rw [wsF, if_neg (by omega), if_neg t]; exact ⟨rfl, hw, Or.inl ⟨rfl, rfl⟩⟩
    · rw [wsF, if_neg (by omega), if_pos t, if_neg (by omega)]; exact ⟨rfl, h1, Or.inr h2⟩
theorem frPw.ok {M M2 : pM} {P : Prop} (h : (M2 = M ∧ P) ∨ frPw M M2) (hS : sOk M.1) : sOk M2.1 := by
  rcases h with ⟨rfl, -⟩ | h
  · exact hS
  · exact h.1.ok hS
theorem wsF_r {t : Int} {n q : Nat} {W : Nat → Int} {w : Int} : 0 ≤ (wsF t n W q w).1 ∧ (wsF t n W q w).1 ≤ 1 := by
  unfold wsF
  repeat' split
  all_goals (dsimp only; omega)
set_option maxHeartbeats 4000000 in
theorem c_X11_wish {d : Nat} {M : pM} {x y w : Int} {n : Nat} {pc W : Nat → Int} (hS : sOk M.1) (hw : CWs M n W) (hxr : inR x) (hyr : inR y) (hwr : inR w) (hz : ∀ q, q < 156 → M.2.1 20 q = pc q ∧ 0 ≤ pc q ∧ pc q ≤ 9) : Ct (d + 3) 0 0 yX11_wish [.ref 2, .int (iI x), .int (iI y), .int (iI w)] M (fun v M2 => (¬ wsK x y w ∧ v = some (.int (iI 0)) ∧ M2 = M) ∨ (wsK x y w ∧ WCq W (wsF (pc (13 * y + x).toNat) n W (13 * y + x).toNat w) M v M2)) := by
  refine ct_in (d := (d + 2)) kX11_wish rfl (by decide) (Nat.le_of_ble_eq_true rfl) (by decide) ?_
  show Go (Ct (d + 2)) _ yX11_wish cX11_wish (some .boolean) 0 0 0 [some (.ref 2), some (.int (iI x)), some (.int (iI y)), some (.int (iI w)), none] [] M
  have hwr2 := hwr
  unfold inR at hwr2
  refine r_iload1 (pc2 := 1) dX11_wish_0 rfl ?_
  refine r_iload2 (pc2 := 2) dX11_wish_1 rfl ?_
  refine r_cs2 (pc2 := 5) dX11_wish_2 rfl sX11_133 (by decide) (c_X11_isPlace (d := d + 1) (c := x) (r := y) hxr hyr) ?_
  by_cases hp : 0 ≤ x ∧ x < 13 ∧ 0 ≤ y ∧ y < 12
  · rintro _ M9 ⟨rfl, h9⟩
    rw [h9, show (if 0 ≤ x ∧ x < 13 ∧ 0 ≤ y ∧ y < 12 then (1 : Int) else 0) = 1 from if_pos hp]
    show Go (Ct (d + 2)) _ yX11_wish cX11_wish (some .boolean) 0 0 5 [some (.ref 2), some (.int (iI x)), some (.int (iI y)), some (.int (iI w)), none] [.int (iI 1)] M
    refine r_ifeq (tgt := 17) (pc2 := 8) dX11_wish_5 rfl (by decide) ⟨by omega, by omega⟩ (fun h9 => absurd h9 (by decide)) (fun _ => ?_)
    refine r_iload3 (pc2 := 9) dX11_wish_8 rfl ?_
    refine r_iflt (tgt := 17) (pc2 := 12) dX11_wish_9 rfl (by decide) ⟨by omega, by omega⟩ (fun b_9 => ?_) (fun b_9 => ?_)
    · refine r_iconst (pc2 := 18) dX11_wish_17 rfl ?_
      refine r_iretz dX11_wish_18 rfl (by omega) ?_
      exact Or.inl ⟨fun c => by have := c.2; omega, rfl, rfl⟩
    · refine r_iload3 (pc2 := 13) dX11_wish_12 rfl ?_
      refine r_iconst (pc2 := 14) dX11_wish_13 rfl ?_
      refine r_icle (tgt := 19) (pc2 := 17) dX11_wish_14 rfl (by decide) ⟨by omega, by omega⟩ ⟨by omega, by omega⟩ (fun b_14 => ?_) (fun b_14 => ?_)
      · refine r_iload1 (pc2 := 20) dX11_wish_19 rfl ?_
        refine r_iload2 (pc2 := 21) dX11_wish_20 rfl ?_
        refine r_cs2 (pc2 := 24) dX11_wish_21 rfl sX11_141 (by decide) (c_X11_placeOf (d := d + 1) (c := x) (r := y)) ?_
        rintro _ M9 ⟨rfl, h9⟩
        obtain ⟨q, eq⟩ : ∃ q : Nat, q = (13 * y + x).toNat := ⟨_, rfl⟩
        have hq : q < 156 := by omega
        rw [h9, show 13 * y + x = ((q : Nat) : Int) by omega]
        show Go (Ct (d + 2)) _ yX11_wish cX11_wish (some .boolean) 0 0 24 [some (.ref 2), some (.int (iI x)), some (.int (iI y)), some (.int (iI w)), none] [.int (iI ((q : Nat) : Int))] M
        refine r_istore4 (pc2 := 26) dX11_wish_24 rfl rfl ?_
        refine r_iload3 (pc2 := 27) dX11_wish_26 rfl ?_
        refine r_iconst (pc2 := 28) dX11_wish_27 rfl ?_
        refine r_icne (tgt := 47) (pc2 := 31) dX11_wish_28 rfl (by decide) ⟨by omega, by omega⟩ ⟨by omega, by omega⟩ (fun b_28 => ?_) (fun b_28 => ?_)
        · refine r_aload0 (pc2 := 48) dX11_wish_47 rfl ?_
          refine r_getR (pc2 := 51) dX11_wish_48 rfl fX11_87 (hK_2 hS) (hR_2_11 hS) ?_
          refine r_iload4 (pc2 := 53) dX11_wish_51 rfl ?_
          refine r_iload3 (pc2 := 54) dX11_wish_53 rfl ?_
          refine r_aload0 (pc2 := 55) dX11_wish_54 rfl ?_
          refine r_getR (pc2 := 58) dX11_wish_55 rfl fX11_28 (hK_2 hS) (hR_2_2 hS) ?_
          refine r_cv3 (pc2 := 61) dX11_wish_58 rfl vX11_209 (hK_266 hS) (by decide) (c_X10_set (d := d) (n := n) (q := q) (z := pc q) (w := w) hS hw hq (hz q hq).1 (hz q hq).2 (by omega)) ?_
          rintro _ M9 ⟨rfl, h9⟩
          have hrs := @wsF_r (pc q) n q W w
          show Go (Ct (d + 2)) _ yX11_wish cX11_wish (some .boolean) 0 0 61 [some (.ref 2), some (.int (iI x)), some (.int (iI y)), some (.int (iI w)), some (.int (iI ((q : Nat) : Int)))] [.int (iI (wsF (pc q) n W q w).1)] M9
          refine r_iretz dX11_wish_61 rfl (by omega) ?_
          exact Or.inr ⟨⟨hp, by omega, by omega⟩, by rw [Int.toNat_natCast]; exact ⟨rfl, h9⟩⟩
        · refine r_aload0 (pc2 := 32) dX11_wish_31 rfl ?_
          refine r_getR (pc2 := 35) dX11_wish_32 rfl fX11_87 (hK_2 hS) (hR_2_11 hS) ?_
          refine r_iload4 (pc2 := 37) dX11_wish_35 rfl ?_
          refine r_aload0 (pc2 := 38) dX11_wish_37 rfl ?_
          refine r_getR (pc2 := 41) dX11_wish_38 rfl fX11_28 (hK_2 hS) (hR_2_2 hS) ?_
          refine r_cv2 (pc2 := 44) dX11_wish_41 rfl vX11_205 (hK_266 hS) (by decide) (c_X10_drop (d := d) (n := n) (q := q) (z := pc q) hS hw hq (hz q hq).1 (hz q hq).2) ?_
          rintro _ M9 ⟨rfl, h9⟩
          have w2 : w = 2 := by omega
          have hrs := @wsF_r (pc q) n q W 2
          show Go (Ct (d + 2)) _ yX11_wish cX11_wish (some .boolean) 0 0 44 [some (.ref 2), some (.int (iI x)), some (.int (iI y)), some (.int (iI w)), some (.int (iI ((q : Nat) : Int)))] [.int (iI (wsF (pc q) n W q 2).1)] M9
          refine r_goto (tgt := 61) dX11_wish_44 (by decide) ?_
          refine r_iretz dX11_wish_61 rfl (by omega) ?_
          exact Or.inr ⟨⟨hp, by omega, by omega⟩, by rw [Int.toNat_natCast]; rw [w2]; exact ⟨rfl, h9⟩⟩
      · refine r_iconst (pc2 := 18) dX11_wish_17 rfl ?_
        refine r_iretz dX11_wish_18 rfl (by omega) ?_
        exact Or.inl ⟨fun c => by have := c.2; omega, rfl, rfl⟩
  · rintro _ M9 ⟨rfl, h9⟩
    rw [h9, show (if 0 ≤ x ∧ x < 13 ∧ 0 ≤ y ∧ y < 12 then (1 : Int) else 0) = 0 from if_neg hp]
    show Go (Ct (d + 2)) _ yX11_wish cX11_wish (some .boolean) 0 0 5 [some (.ref 2), some (.int (iI x)), some (.int (iI y)), some (.int (iI w)), none] [.int (iI 0)] M
    refine r_ifeq (tgt := 17) (pc2 := 8) dX11_wish_5 rfl (by decide) ⟨by omega, by omega⟩ (fun _ => ?_) (fun h9 => absurd h9 (by decide))
    refine r_iconst (pc2 := 18) dX11_wish_17 rfl ?_
    refine r_iretz dX11_wish_18 rfl (by omega) ?_
    exact Or.inl ⟨fun c => hp c.1, rfl, rfl⟩
