/-! run of the model; what single places tell, both sides -/
set_option maxHeartbeats 4000000 in
theorem c_X12_runY {d : Nat} {M : pM} {h N : Nat} {x : rnS} {B : Nat → bS} (hS : sOk M.1) (hB : MB M (va_up B 0 x.1)) (hx : rnOk x) (hh : h < 4) (hL : MLg M x) (hn : x.2.2 ≤ 1999999000) (hN : 1 ≤ N ∧ N ≤ 200) : Ct (d + 4) 0 0 yX12_run [.ref 317, .int (iI ((h : Nat) : Int)), .int (iI ((N : Nat) : Int))] M (fun v M2 => RMq (rnL N h x) B M v M2) := by
  refine ct_in (d := (d + 3)) kX12_run rfl (by decide) (Nat.le_of_ble_eq_true rfl) (by decide) ?_
  show Go (Ct (d + 3)) _ yX12_run cX12_run (some .int) 0 0 0 [some (.ref 317), some (.int (iI ((h : Nat) : Int))), some (.int (iI ((N : Nat) : Int))), none, none, none] [] M
  have hb0 := hB 0 (by omega)
  rw [up_at] at hb0
  refine r_aload0 (pc2 := 1) dX12_run_0 rfl ?_
  refine r_iconst (pc2 := 2) dX12_run_1 rfl ?_
  refine r_putI (z := 0) (pc2 := 5) dX12_run_2 rfl fX12_1 (w12_0 _) (hK_317 hS) (by decide) ?_
  refine r_iload1 (pc2 := 6) dX12_run_5 rfl ?_
  refine r_cs1 (pc2 := 9) dX12_run_6 rfl sX12_306 (by decide) (c_X12_isHopper (d := d + 2) (h := ((h : Nat) : Int)) ⟨by omega, by omega⟩) ?_
  rintro _ M9 ⟨rfl, h9⟩
  rw [h9, if_pos (show 0 ≤ ((h : Nat) : Int) ∧ ((h : Nat) : Int) < 4 by omega)]
  show Go (Ct (d + 3)) _ yX12_run cX12_run (some .int) 0 0 9 [some (.ref 317), some (.int (iI ((h : Nat) : Int))), some (.int (iI ((N : Nat) : Int))), none, none, none] [.int (iI 1)] (pI M 317 0 0)
  refine r_ifeq (tgt := 24) (pc2 := 12) dX12_run_9 rfl (by decide) ⟨by omega, by omega⟩ (fun h9 => absurd h9 (by decide)) (fun _ => ?_)
  refine r_iload2 (pc2 := 13) dX12_run_12 rfl ?_
  refine r_iconst (pc2 := 14) dX12_run_13 rfl ?_
  refine r_iclt (tgt := 24) (pc2 := 17) dX12_run_14 rfl (by decide) ⟨by omega, by omega⟩ ⟨by omega, by omega⟩ (fun b_14 => ?_) (fun b_14 => ?_)
  · refine r_iconst (pc2 := 25) dX12_run_24 rfl ?_
    refine r_ireti dX12_run_25 rfl ?_
    exact absurd b_14 (by omega)
  · refine r_iload2 (pc2 := 18) dX12_run_17 rfl ?_
    refine r_sipush (pc2 := 21) dX12_run_18 rfl (by decide) (by decide) ?_
    refine r_icle (tgt := 26) (pc2 := 24) dX12_run_21 rfl (by decide) ⟨by omega, by omega⟩ ⟨by omega, by omega⟩ (fun b_21 => ?_) (fun b_21 => ?_)
    · refine r_aload0 (pc2 := 27) dX12_run_26 rfl ?_
      refine r_iconst (pc2 := 28) dX12_run_27 rfl ?_
      refine r_iconst (pc2 := 29) dX12_run_28 rfl ?_
      refine r_cv2 (pc2 := 32) dX12_run_29 rfl vX12_309 (hK_317 hS) (by decide) (c_X12_findTrains (d := d + 1) (b := 0) (sl := 0) (pc := x.1.1.1.1) hS (by decide) (by decide) (fun q hq => ⟨(hb0.1 q hq).1, bK_pc hx.2 q hq⟩)) ?_
      rintro _ M1 ⟨rfl, f1, e1⟩
      have hS1 := f1.ok hS
      have hB1 : MB M1 (va_up B 0 x.1) := MB.ofl (M := pI M 317 0 0) hB.z f1 (by decide)
      have hT1 : ∀ p, p < 156 → M1.2.1 335 (156 * 0 + p) = bT x.1.1 p := fun p hp => by rw [e1, sB_in hp]
      show Go (Ct (d + 3)) _ yX12_run cX12_run (some .int) 0 0 32 [some (.ref 317), some (.int (iI ((h : Nat) : Int))), some (.int (iI ((N : Nat) : Int))), none, none, none] [] M1
      refine r_iload1 (pc2 := 33) dX12_run_32 rfl ?_
      refine r_istore3 (pc2 := 34) dX12_run_33 rfl rfl ?_
      refine r_iconst (pc2 := 35) dX12_run_34 rfl ?_
      refine r_istore4 (pc2 := 37) dX12_run_35 rfl rfl ?_
      have f01 : frJ M M1 := ⟨(fr.rf.I (by decide)).tr (f1.mono (by decide)), fun j j0 _ _ => by rw [f1.i (by decide), pI_nk j0]⟩
      refine lp_X12_run (d := d) (B := B) M (by omega) N 0 h x M1 _ (by omega) hh hx hS1 hB1 hT1 ⟨?_, ?_, fun j hj => ?_⟩ (by omega) f01 ?_ (fun v M2 q1 => q1)
      · rw [f1.i (by decide), pI_nk (by decide)]; exact hL.1
      · rw [f1.i (by decide), pI_nk (by decide)]; exact hL.2.1
      · rw [f1.i (by decide), pI_ne (by decide)]; exact hL.2.2 j hj
      · rw [f1.i (by decide), pI_at]
    · refine r_iconst (pc2 := 25) dX12_run_24 rfl ?_
      refine r_ireti dX12_run_25 rfl ?_
      exact absurd b_21 (by omega)
set_option maxHeartbeats 4000000 in
theorem c_X12_piece {d : Nat} {M : pM} {x y : Int} {q : Nat} {B : Nat → bS} (hS : sOk M.1) (hxr : inR x) (hyr : inR y) (hq : q = (13 * y + x).toNat) (hB : MB M B) : Ct (d + 2) 0 0 yX12_piece [.ref 317, .int (iI x), .int (iI y)] M (fun v M2 => v = some (.int (iI (if 0 ≤ x ∧ x < 13 ∧ 0 ≤ y ∧ y < 12 then (B 0).1.1.1 q else -1))) ∧ M2 = pI M 317 0 0) := by
  refine ct_in (d := (d + 1)) kX12_piece rfl (by decide) (Nat.le_of_ble_eq_true rfl) (by decide) ?_
  show Go (Ct (d + 1)) _ yX12_piece cX12_piece (some .int) 0 0 0 [some (.ref 317), some (.int (iI x)), some (.int (iI y))] [] M
  have hxr2 := hxr
  have hyr2 := hyr
  unfold inR at hxr2 hyr2
  refine r_aload0 (pc2 := 1) dX12_piece_0 rfl ?_
  refine r_iconst (pc2 := 2) dX12_piece_1 rfl ?_
  refine r_putI (z := 0) (pc2 := 5) dX12_piece_2 rfl fX12_1 (w12_0 _) (hK_317 hS) (by decide) ?_
  refine r_iload1 (pc2 := 6) dX12_piece_5 rfl ?_
  refine r_iload2 (pc2 := 7) dX12_piece_6 rfl ?_
  refine r_cs2 (pc2 := 10) dX12_piece_7 rfl sX12_379 (by decide) (c_X12_isPlace (d := d) (c := x) (r := y) hxr hyr) ?_
  by_cases hin : 0 ≤ x ∧ x < 13 ∧ 0 ≤ y ∧ y < 12
  · rintro _ M9 ⟨rfl, h9⟩
    rw [h9, show (if 0 ≤ x ∧ x < 13 ∧ 0 ≤ y ∧ y < 12 then (1 : Int) else 0) = 1 from if_pos hin]
    have hq1 : q < 156 := by omega
    show Go (Ct (d + 1)) _ yX12_piece cX12_piece (some .int) 0 0 10 [some (.ref 317), some (.int (iI x)), some (.int (iI y))] [.int (iI 1)] (pI M 317 0 0)
    refine r_ifeq (tgt := 27) (pc2 := 13) dX12_piece_10 rfl (by decide) ⟨by omega, by omega⟩ (fun h9 => absurd h9 (by decide)) (fun _ => ?_)
    refine r_aload0 (pc2 := 14) dX12_piece_13 rfl ?_
    refine r_getR (pc2 := 17) dX12_piece_14 rfl fX12_86 (hK_317 hS) (hR_317_17 hS) ?_
    refine r_bipush (pc2 := 19) dX12_piece_17 rfl (by decide) (by decide) ?_
    refine r_iload2 (pc2 := 20) dX12_piece_19 rfl ?_
    refine r_imul (c := (13 * y)) (pc2 := 21) dX12_piece_20 rfl rfl ?_
    refine r_iload1 (pc2 := 22) dX12_piece_21 rfl ?_
    refine r_iadd (c := ((q : Nat) : Int)) (pc2 := 23) dX12_piece_22 rfl (by omega) ?_
    refine r_iald (z := ((B 0).1.1.1 q)) (pc2 := 24) dX12_piece_23 rfl (hK_328 hS) q rfl (by omega) (by have h8 := (hB 0 (by omega)).1 q hq1; rw [show 156 * 0 + q = q by omega] at h8; exact h8.1) ?_
    refine r_goto (tgt := 28) dX12_piece_24 (by decide) ?_
    refine r_ireti dX12_piece_28 rfl ?_
    exact ⟨by rw [if_pos hin], rfl⟩
  · rintro _ M9 ⟨rfl, h9⟩
    rw [h9, show (if 0 ≤ x ∧ x < 13 ∧ 0 ≤ y ∧ y < 12 then (1 : Int) else 0) = 0 from if_neg hin]
    show Go (Ct (d + 1)) _ yX12_piece cX12_piece (some .int) 0 0 10 [some (.ref 317), some (.int (iI x)), some (.int (iI y))] [.int (iI 0)] (pI M 317 0 0)
    refine r_ifeq (tgt := 27) (pc2 := 13) dX12_piece_10 rfl (by decide) ⟨by omega, by omega⟩ (fun _ => ?_) (fun h9 => absurd h9 (by decide))
    refine r_iconst (pc2 := 28) dX12_piece_27 rfl ?_
    refine r_ireti dX12_piece_28 rfl ?_
    exact ⟨by rw [if_neg hin], rfl⟩
set_option maxHeartbeats 4000000 in
theorem c_X11_piece {d : Nat} {M : pM} {x y : Int} {q : Nat} {X : bS} {ix : Nat → Nat} (hS : sOk M.1) (hxr : inR x) (hyr : inR y) (hq : q = (13 * y + x).toNat) (hC : CF M 19 X ix) : Ct (d + 2) 0 0 yX11_piece [.ref 2, .int (iI x), .int (iI y)] M (fun v M2 => v = some (.int (iI (if 0 ≤ x ∧ x < 13 ∧ 0 ≤ y ∧ y < 12 then X.1.1.1 q else -1))) ∧ M2 = M) := by
  refine ct_in (d := (d + 1)) kX11_piece rfl (by decide) (Nat.le_of_ble_eq_true rfl) (by decide) ?_
  show Go (Ct (d + 1)) _ yX11_piece cX11_piece (some .int) 0 0 0 [some (.ref 2), some (.int (iI x)), some (.int (iI y))] [] M
  have hxr2 := hxr
  have hyr2 := hyr
  unfold inR at hxr2 hyr2
  refine r_iload1 (pc2 := 1) dX11_piece_0 rfl ?_
  refine r_iload2 (pc2 := 2) dX11_piece_1 rfl ?_
  refine r_cs2 (pc2 := 5) dX11_piece_2 rfl sX11_133 (by decide) (c_X11_isPlace (d := d) (c := x) (r := y) hxr hyr) ?_
  by_cases hin : 0 ≤ x ∧ x < 13 ∧ 0 ≤ y ∧ y < 12
  · rintro _ M9 ⟨rfl, h9⟩
    rw [h9, show (if 0 ≤ x ∧ x < 13 ∧ 0 ≤ y ∧ y < 12 then (1 : Int) else 0) = 1 from if_pos hin]
    have hq1 : q < 156 := by omega
    show Go (Ct (d + 1)) _ yX11_piece cX11_piece (some .int) 0 0 5 [some (.ref 2), some (.int (iI x)), some (.int (iI y))] [.int (iI 1)] M
    refine r_ifeq (tgt := 24) (pc2 := 8) dX11_piece_5 rfl (by decide) ⟨by omega, by omega⟩ (fun h9 => absurd h9 (by decide)) (fun _ => ?_)
    refine r_aload0 (pc2 := 9) dX11_piece_8 rfl ?_
    refine r_getR (pc2 := 12) dX11_piece_9 rfl fX11_28 (hK_2 hS) (hR_2_2 hS) ?_
    refine r_getR (pc2 := 15) dX11_piece_12 rfl fX11_137 (hK_19 hS) (hR_19_0 hS) ?_
    refine r_iload1 (pc2 := 16) dX11_piece_15 rfl ?_
    refine r_iload2 (pc2 := 17) dX11_piece_16 rfl ?_
    refine r_cs2 (pc2 := 20) dX11_piece_17 rfl sX11_141 (Nat.le_of_ble_eq_true rfl) (c_X11_placeOf (d := d) (c := x) (r := y)) ?_
    rintro _ M9 ⟨rfl, h9⟩
    rw [h9]
    rw [show 13 * y + x = ((q : Nat) : Int) by omega]
    show Go (Ct (d + 1)) _ yX11_piece cX11_piece (some .int) 0 0 20 [some (.ref 2), some (.int (iI x)), some (.int (iI y))] [.int (iI ((q : Nat) : Int)), .ref 20] M
    refine r_iald (z := (X.1.1.1 q)) (pc2 := 21) dX11_piece_20 rfl (hK_20 hS) q rfl (by omega) (hC.1.1.1 q hq1) ?_
    refine r_goto (tgt := 25) dX11_piece_21 (by decide) ?_
    refine r_ireti dX11_piece_25 rfl ?_
    exact ⟨by rw [if_pos hin], rfl⟩
  · rintro _ M9 ⟨rfl, h9⟩
    rw [h9, show (if 0 ≤ x ∧ x < 13 ∧ 0 ≤ y ∧ y < 12 then (1 : Int) else 0) = 0 from if_neg hin]
    show Go (Ct (d + 1)) _ yX11_piece cX11_piece (some .int) 0 0 5 [some (.ref 2), some (.int (iI x)), some (.int (iI y))] [.int (iI 0)] M
    refine r_ifeq (tgt := 24) (pc2 := 8) dX11_piece_5 rfl (by decide) ⟨by omega, by omega⟩ (fun _ => ?_) (fun h9 => absurd h9 (by decide))
    refine r_iconst (pc2 := 25) dX11_piece_24 rfl ?_
    refine r_ireti dX11_piece_25 rfl ?_
    exact ⟨by rw [if_neg hin], rfl⟩
set_option maxHeartbeats 4000000 in
theorem c_X11_train {d : Nat} {M : pM} {x y : Int} {q : Nat} {X : bS} {ix : Nat → Nat} (hS : sOk M.1) (hxr : inR x) (hyr : inR y) (hq : q = (13 * y + x).toNat) (hC : CF M 19 X ix) : Ct (d + 2) 0 0 yX11_train [.ref 2, .int (iI x), .int (iI y)] M (fun v M2 => v = some (.int (iI (if 0 ≤ x ∧ x < 13 ∧ 0 ≤ y ∧ y < 12 then bT X.1 q else -1))) ∧ M2 = M) := by
  refine ct_in (d := (d + 1)) kX11_train rfl (by decide) (Nat.le_of_ble_eq_true rfl) (by decide) ?_
  show Go (Ct (d + 1)) _ yX11_train cX11_train (some .int) 0 0 0 [some (.ref 2), some (.int (iI x)), some (.int (iI y))] [] M
  have hxr2 := hxr
  have hyr2 := hyr
  unfold inR at hxr2 hyr2
  refine r_iload1 (pc2 := 1) dX11_train_0 rfl ?_
  refine r_iload2 (pc2 := 2) dX11_train_1 rfl ?_
  refine r_cs2 (pc2 := 5) dX11_train_2 rfl sX11_133 (by decide) (c_X11_isPlace (d := d) (c := x) (r := y) hxr hyr) ?_
  by_cases hin : 0 ≤ x ∧ x < 13 ∧ 0 ≤ y ∧ y < 12
  · rintro _ M9 ⟨rfl, h9⟩
    rw [h9, show (if 0 ≤ x ∧ x < 13 ∧ 0 ≤ y ∧ y < 12 then (1 : Int) else 0) = 1 from if_pos hin]
    have hq1 : q < 156 := by omega
    show Go (Ct (d + 1)) _ yX11_train cX11_train (some .int) 0 0 5 [some (.ref 2), some (.int (iI x)), some (.int (iI y))] [.int (iI 1)] M
    refine r_ifeq (tgt := 24) (pc2 := 8) dX11_train_5 rfl (by decide) ⟨by omega, by omega⟩ (fun h9 => absurd h9 (by decide)) (fun _ => ?_)
    refine r_aload0 (pc2 := 9) dX11_train_8 rfl ?_
    refine r_getR (pc2 := 12) dX11_train_9 rfl fX11_28 (hK_2 hS) (hR_2_2 hS) ?_
    refine r_getR (pc2 := 15) dX11_train_12 rfl fX11_149 (hK_19 hS) (hR_19_3 hS) ?_
    refine r_iload1 (pc2 := 16) dX11_train_15 rfl ?_
    refine r_iload2 (pc2 := 17) dX11_train_16 rfl ?_
    refine r_cs2 (pc2 := 20) dX11_train_17 rfl sX11_141 (Nat.le_of_ble_eq_true rfl) (c_X11_placeOf (d := d) (c := x) (r := y)) ?_
    rintro _ M9 ⟨rfl, h9⟩
    rw [h9]
    rw [show 13 * y + x = ((q : Nat) : Int) by omega]
    show Go (Ct (d + 1)) _ yX11_train cX11_train (some .int) 0 0 20 [some (.ref 2), some (.int (iI x)), some (.int (iI y))] [.int (iI ((q : Nat) : Int)), .ref 23] M
    refine r_iald (z := (bT X.1 q)) (pc2 := 21) dX11_train_20 rfl (hK_23 hS) q rfl (by omega) (hC.1.1.2.2.2.1 q hq1) ?_
    refine r_goto (tgt := 25) dX11_train_21 (by decide) ?_
    refine r_ireti dX11_train_25 rfl ?_
    exact ⟨by rw [if_pos hin], rfl⟩
  · rintro _ M9 ⟨rfl, h9⟩
    rw [h9, show (if 0 ≤ x ∧ x < 13 ∧ 0 ≤ y ∧ y < 12 then (1 : Int) else 0) = 0 from if_neg hin]
    show Go (Ct (d + 1)) _ yX11_train cX11_train (some .int) 0 0 5 [some (.ref 2), some (.int (iI x)), some (.int (iI y))] [.int (iI 0)] M
    refine r_ifeq (tgt := 24) (pc2 := 8) dX11_train_5 rfl (by decide) ⟨by omega, by omega⟩ (fun _ => ?_) (fun h9 => absurd h9 (by decide))
    refine r_iconst (pc2 := 25) dX11_train_24 rfl ?_
    refine r_ireti dX11_train_25 rfl ?_
    exact ⟨by rw [if_neg hin], rfl⟩
set_option maxHeartbeats 4000000 in
theorem c_X12_train {d : Nat} {M : pM} {x y : Int} {q : Nat} {B : Nat → bS} (hS : sOk M.1) (hxr : inR x) (hyr : inR y) (hq : q = (13 * y + x).toNat) (hB : MB M B) (hk : bK (B 0).1 (B 0).2) : Ct (d + 3) 0 0 yX12_train [.ref 317, .int (iI x), .int (iI y)] M (fun v M2 => v = some (.int (iI (if 0 ≤ x ∧ x < 13 ∧ 0 ≤ y ∧ y < 12 then bT (B 0).1 q else -1))) ∧ fr [317, 335, 336] M M2 ∧ (∀ j, j ≠ 0 → M2.2.1 317 j = M.2.1 317 j) ∧ M2.2.1 317 0 = 0) := by
  refine ct_in (d := (d + 2)) kX12_train rfl (by decide) (Nat.le_of_ble_eq_true rfl) (by decide) ?_
  show Go (Ct (d + 2)) _ yX12_train cX12_train (some .int) 0 0 0 [some (.ref 317), some (.int (iI x)), some (.int (iI y))] [] M
  have hxr2 := hxr
  have hyr2 := hyr
  unfold inR at hxr2 hyr2
  refine r_aload0 (pc2 := 1) dX12_train_0 rfl ?_
  refine r_iconst (pc2 := 2) dX12_train_1 rfl ?_
  refine r_putI (z := 0) (pc2 := 5) dX12_train_2 rfl fX12_1 (w12_0 _) (hK_317 hS) (by decide) ?_
  refine r_iload1 (pc2 := 6) dX12_train_5 rfl ?_
  refine r_iload2 (pc2 := 7) dX12_train_6 rfl ?_
  refine r_cs2 (pc2 := 10) dX12_train_7 rfl sX12_379 (by decide) (c_X12_isPlace (d := d + 1) (c := x) (r := y) hxr hyr) ?_
  by_cases hin : 0 ≤ x ∧ x < 13 ∧ 0 ≤ y ∧ y < 12
  · rintro _ M9 ⟨rfl, h9⟩
    rw [h9, show (if 0 ≤ x ∧ x < 13 ∧ 0 ≤ y ∧ y < 12 then (1 : Int) else 0) = 1 from if_pos hin]
    have hq1 : q < 156 := by omega
    show Go (Ct (d + 2)) _ yX12_train cX12_train (some .int) 0 0 10 [some (.ref 317), some (.int (iI x)), some (.int (iI y))] [.int (iI 1)] (pI M 317 0 0)
    refine r_ifne (tgt := 15) (pc2 := 13) dX12_train_10 rfl (by decide) ⟨by omega, by omega⟩ (fun _ => ?_) (fun h9 => absurd h9 (by decide))
    refine r_aload0 (pc2 := 16) dX12_train_15 rfl ?_
    refine r_iconst (pc2 := 17) dX12_train_16 rfl ?_
    refine r_iconst (pc2 := 18) dX12_train_17 rfl ?_
    refine r_cv2 (pc2 := 21) dX12_train_18 rfl vX12_309 (hK_317 hS) (by decide) (c_X12_findTrains (d := d) (b := 0) (sl := 0) (pc := (B 0).1.1.1) hS (by decide) (by decide) (fun q hq => ⟨((hB 0 (by omega)).1 q hq).1, bK_pc hk q hq⟩)) ?_
    rintro _ M1 ⟨rfl, f1, e1⟩
    have hS1 := f1.ok hS
    show Go (Ct (d + 2)) _ yX12_train cX12_train (some .int) 0 0 21 [some (.ref 317), some (.int (iI x)), some (.int (iI y))] [] M1
    refine r_aload0 (pc2 := 22) dX12_train_21 rfl ?_
    refine r_getR (pc2 := 25) dX12_train_22 rfl fX12_107 (hK_317 hS1) (hR_317_29 hS1) ?_
    refine r_bipush (pc2 := 27) dX12_train_25 rfl (by decide) (by decide) ?_
    refine r_iload2 (pc2 := 28) dX12_train_27 rfl ?_
    refine r_imul (c := (13 * y)) (pc2 := 29) dX12_train_28 rfl rfl ?_
    refine r_iload1 (pc2 := 30) dX12_train_29 rfl ?_
    refine r_iadd (c := ((q : Nat) : Int)) (pc2 := 31) dX12_train_30 rfl (by omega) ?_
    refine r_iald (z := (bT (B 0).1 q)) (pc2 := 32) dX12_train_31 rfl (hK_335 hS1) q rfl (by omega) (by have h8 : M1.2.1 335 (156 * 0 + q) = bT (B 0).1 q := (by rw [e1, sB_in hq1]); rw [show 156 * 0 + q = q by omega] at h8; exact h8) ?_
    refine r_ireti dX12_train_32 rfl ?_
    refine ⟨by rw [if_pos hin], (fr.rf.I (by decide)).tr (f1.mono (by decide)), fun j j0 => by rw [f1.i (by decide), pI_nk j0], by rw [f1.i (by decide), pI_at]⟩
  · rintro _ M9 ⟨rfl, h9⟩
    rw [h9, show (if 0 ≤ x ∧ x < 13 ∧ 0 ≤ y ∧ y < 12 then (1 : Int) else 0) = 0 from if_neg hin]
    show Go (Ct (d + 2)) _ yX12_train cX12_train (some .int) 0 0 10 [some (.ref 317), some (.int (iI x)), some (.int (iI y))] [.int (iI 0)] (pI M 317 0 0)
    refine r_ifne (tgt := 15) (pc2 := 13) dX12_train_10 rfl (by decide) ⟨by omega, by omega⟩ (fun h9 => absurd h9 (by decide)) (fun _ => ?_)
    refine r_iconst (pc2 := 14) dX12_train_13 rfl ?_
    refine r_ireti dX12_train_14 rfl ?_
    exact ⟨by rw [if_neg hin], fr.rf.I (by decide), fun j j0 => pI_nk j0, pI_at⟩
set_option maxHeartbeats 4000000 in
theorem c_X12_lever {d : Nat} {M : pM} {z : Int} {B : Nat → bS} (hS : sOk M.1) (hzr : inR z) (hB : MB M B) : Ct (d + 1) 0 0 yX12_lever [.ref 317, .int (iI z)] M (fun v M2 => v = some (.int (iI (if 0 ≤ z ∧ z < 13 then (B 0).1.2.2.2.1 z.toNat else -1))) ∧ M2 = pI M 317 0 0) := by
  refine ct_in (d := d) kX12_lever rfl (by decide) (Nat.le_of_ble_eq_true rfl) (by decide) ?_
  show Go (Ct d) _ yX12_lever cX12_lever (some .int) 0 0 0 [some (.ref 317), some (.int (iI z))] [] M
  unfold inR at hzr
  refine r_aload0 (pc2 := 1) dX12_lever_0 rfl ?_
  refine r_iconst (pc2 := 2) dX12_lever_1 rfl ?_
  refine r_putI (z := 0) (pc2 := 5) dX12_lever_2 rfl fX12_1 (w12_0 _) (hK_317 hS) (by decide) ?_
  refine r_iload1 (pc2 := 6) dX12_lever_5 rfl ?_
  refine r_iflt (tgt := 24) (pc2 := 9) dX12_lever_6 rfl (by decide) ⟨by omega, by omega⟩ (fun b_6 => ?_) (fun b_6 => ?_)
  · refine r_iconst (pc2 := 25) dX12_lever_24 rfl ?_
    refine r_ireti dX12_lever_25 rfl ?_
    exact ⟨by rw [if_neg (by omega)], rfl⟩
  · refine r_iload1 (pc2 := 10) dX12_lever_9 rfl ?_
    refine r_bipush (pc2 := 12) dX12_lever_10 rfl (by decide) (by decide) ?_
    refine r_icge (tgt := 24) (pc2 := 15) dX12_lever_12 rfl (by decide) ⟨by omega, by omega⟩ ⟨by omega, by omega⟩ (fun b_12 => ?_) (fun b_12 => ?_)
    · refine r_iconst (pc2 := 25) dX12_lever_24 rfl ?_
      refine r_ireti dX12_lever_25 rfl ?_
      exact ⟨by rw [if_neg (by omega)], rfl⟩
    · refine r_aload0 (pc2 := 16) dX12_lever_15 rfl ?_
      refine r_getR (pc2 := 19) dX12_lever_16 rfl fX12_95 (hK_317 hS) (hR_317_20 hS) ?_
      refine r_iload1 (pc2 := 20) dX12_lever_19 rfl ?_
      refine r_iald (z := ((B 0).1.2.2.2.1 z.toNat)) (pc2 := 21) dX12_lever_20 rfl (hK_331 hS) (z).toNat (by omega) (by omega) (by have h8 := (hB 0 (by omega)).2.2 z.toNat (by omega); rw [show 13 * 0 + z.toNat = z.toNat by omega] at h8; exact h8) ?_
      refine r_goto (tgt := 25) dX12_lever_21 (by decide) ?_
      refine r_ireti dX12_lever_25 rfl ?_
      exact ⟨by rw [if_pos (by omega)], rfl⟩
set_option maxHeartbeats 4000000 in
theorem c_X11_lever {d : Nat} {M : pM} {z : Int} {X : bS} {ix : Nat → Nat} (hS : sOk M.1) (hzr : inR z) (hC : CF M 19 X ix) : Ct (d + 1) 0 0 yX11_lever [.ref 2, .int (iI z)] M (fun v M2 => v = some (.int (iI (if 0 ≤ z ∧ z < 13 then X.1.2.2.2.1 z.toNat else -1))) ∧ M2 = M) := by
  refine ct_in (d := d) kX11_lever rfl (by decide) (Nat.le_of_ble_eq_true rfl) (by decide) ?_
  show Go (Ct d) _ yX11_lever cX11_lever (some .int) 0 0 0 [some (.ref 2), some (.int (iI z))] [] M
  unfold inR at hzr
  refine r_iload1 (pc2 := 1) dX11_lever_0 rfl ?_
  refine r_iflt (tgt := 10) (pc2 := 4) dX11_lever_1 rfl (by decide) ⟨by omega, by omega⟩ (fun b_1 => ?_) (fun b_1 => ?_)
  · refine r_iconst (pc2 := 11) dX11_lever_10 rfl ?_
    refine r_goto (tgt := 23) dX11_lever_11 (by decide) ?_
    refine r_ireti dX11_lever_23 rfl ?_
    exact ⟨by rw [if_neg (by omega)], rfl⟩
  · refine r_iload1 (pc2 := 5) dX11_lever_4 rfl ?_
    refine r_bipush (pc2 := 7) dX11_lever_5 rfl (by decide) (by decide) ?_
    refine r_iclt (tgt := 14) (pc2 := 10) dX11_lever_7 rfl (by decide) ⟨by omega, by omega⟩ ⟨by omega, by omega⟩ (fun b_7 => ?_) (fun b_7 => ?_)
    · refine r_aload0 (pc2 := 15) dX11_lever_14 rfl ?_
      refine r_getR (pc2 := 18) dX11_lever_15 rfl fX11_28 (hK_2 hS) (hR_2_2 hS) ?_
      refine r_getR (pc2 := 21) dX11_lever_18 rfl fX11_152 (hK_19 hS) (hR_19_5 hS) ?_
      refine r_iload1 (pc2 := 22) dX11_lever_21 rfl ?_
      refine r_iald (z := (X.1.2.2.2.1 z.toNat)) (pc2 := 23) dX11_lever_22 rfl (hK_25 hS) (z).toNat (by omega) (by omega) (hC.1.2.2 z.toNat (by omega)) ?_
      refine r_ireti dX11_lever_23 rfl ?_
      exact ⟨by rw [if_pos (by omega)], rfl⟩
    · refine r_iconst (pc2 := 11) dX11_lever_10 rfl ?_
      refine r_goto (tgt := 23) dX11_lever_11 (by decide) ?_
      refine r_ireti dX11_lever_23 rfl ?_
      exact ⟨by rw [if_neg (by omega)], rfl⟩
set_option maxHeartbeats 4000000 in
theorem c_X12_logged {d : Nat} {M : pM} {z : Int} {x : rnS} (hS : sOk M.1) (hzr : inR z) (hL : MLg M x) (hn : x.2.2 ≤ 2000000000) : Ct (d + 1) 0 0 yX12_logged [.ref 317, .int (iI z)] M (fun v M2 => v = some (.int (iI (if 0 ≤ z ∧ z < 100 ∧ z < ((x.2.2 : Nat) : Int) then x.2.1 ((((x.2.2 : Nat) : Int) - 1 - z) % 100).toNat else -1))) ∧ M2 = pI M 317 0 0) := by
  refine ct_in (d := d) kX12_logged rfl (by decide) (Nat.le_of_ble_eq_true rfl) (by decide) ?_
  show Go (Ct d) _ yX12_logged cX12_logged (some .int) 0 0 0 [some (.ref 317), some (.int (iI z))] [] M
  unfold inR at hzr
  refine r_aload0 (pc2 := 1) dX12_logged_0 rfl ?_
  refine r_iconst (pc2 := 2) dX12_logged_1 rfl ?_
  refine r_putI (z := 0) (pc2 := 5) dX12_logged_2 rfl fX12_1 (w12_0 _) (hK_317 hS) (by decide) ?_
  refine r_iload1 (pc2 := 6) dX12_logged_5 rfl ?_
  refine r_iflt (tgt := 23) (pc2 := 9) dX12_logged_6 rfl (by decide) ⟨by omega, by omega⟩ (fun b_6 => ?_) (fun b_6 => ?_)
  · refine r_iconst (pc2 := 24) dX12_logged_23 rfl ?_
    refine r_goto (tgt := 43) dX12_logged_24 (by decide) ?_
    refine r_ireti dX12_logged_43 rfl ?_
    exact ⟨by rw [if_neg (by omega)], rfl⟩
  · refine r_iload1 (pc2 := 10) dX12_logged_9 rfl ?_
    refine r_bipush (pc2 := 12) dX12_logged_10 rfl (by decide) (by decide) ?_
    refine r_icge (tgt := 23) (pc2 := 15) dX12_logged_12 rfl (by decide) ⟨by omega, by omega⟩ ⟨by omega, by omega⟩ (fun b_12 => ?_) (fun b_12 => ?_)
    · refine r_iconst (pc2 := 24) dX12_logged_23 rfl ?_
      refine r_goto (tgt := 43) dX12_logged_24 (by decide) ?_
      refine r_ireti dX12_logged_43 rfl ?_
      exact ⟨by rw [if_neg (by omega)], rfl⟩
    · refine r_iload1 (pc2 := 16) dX12_logged_15 rfl ?_
      refine r_aload0 (pc2 := 17) dX12_logged_16 rfl ?_
      refine r_getI (z := ((x.2.2 : Nat) : Int)) (pc2 := 20) dX12_logged_17 rfl (Or.inl fX12_316) (hK_317 hS) hL.1 ?_
      refine r_iclt (tgt := 27) (pc2 := 23) dX12_logged_20 rfl (by decide) ⟨by omega, by omega⟩ ⟨by omega, by omega⟩ (fun b_20 => ?_) (fun b_20 => ?_)
      · refine r_aload0 (pc2 := 28) dX12_logged_27 rfl ?_
        refine r_getR (pc2 := 31) dX12_logged_28 rfl fX12_113 (hK_317 hS) (hR_317_33 hS) ?_
        refine r_aload0 (pc2 := 32) dX12_logged_31 rfl ?_
        refine r_getI (z := ((x.2.2 : Nat) : Int)) (pc2 := 35) dX12_logged_32 rfl (Or.inl fX12_316) (hK_317 hS) hL.1 ?_
        refine r_iconst (pc2 := 36) dX12_logged_35 rfl ?_
        refine r_isub (c := (((x.2.2 : Nat) : Int) - 1)) (pc2 := 37) dX12_logged_36 rfl rfl ?_
        refine r_iload1 (pc2 := 38) dX12_logged_37 rfl ?_
        refine r_isub (c := ((((x.2.2 : Nat) : Int) - 1) - z)) (pc2 := 39) dX12_logged_38 rfl rfl ?_
        refine r_bipush (pc2 := 41) dX12_logged_39 rfl (by decide) (by decide) ?_
        refine r_irem (pc2 := 42) dX12_logged_41 rfl (by omega) (by omega) (by omega) (by omega) ?_
        refine r_iald (z := (x.2.1 ((((x.2.2 : Nat) : Int) - 1 - z) % 100).toNat)) (pc2 := 43) dX12_logged_42 rfl (hK_337 hS) ((((((x.2.2 : Nat) : Int) - 1) - z) % 100)).toNat (by omega) (by omega) (hL.2.2 _ (by omega)) ?_
        refine r_ireti dX12_logged_43 rfl ?_
        exact ⟨by rw [if_pos (by omega)], rfl⟩
      · refine r_iconst (pc2 := 24) dX12_logged_23 rfl ?_
        refine r_goto (tgt := 43) dX12_logged_24 (by decide) ?_
        refine r_ireti dX12_logged_43 rfl ?_
        exact ⟨by rw [if_neg (by omega)], rfl⟩
set_option maxHeartbeats 4000000 in
theorem c_X1_latest {d : Nat} {M : pM} {z : Int} {x : rnS} (hS : sOk M.1) (hzr : inR z) (hL : CLg M x) (hn : x.2.2 ≤ 2000000000) : Ct (d + 1) 0 0 yX1_latest [.ref 254, .int (iI z)] M (fun v M2 => v = some (.int (iI (if 0 ≤ z ∧ z < 100 ∧ z < ((x.2.2 : Nat) : Int) then x.2.1 ((((x.2.2 : Nat) : Int) - 1 - z) % 100).toNat else -1))) ∧ M2 = M) := by
  refine ct_in (d := d) kX1_latest rfl (by decide) (Nat.le_of_ble_eq_true rfl) (by decide) ?_
  show Go (Ct d) _ yX1_latest cX1_latest (some .int) 0 0 0 [some (.ref 254), some (.int (iI z))] [] M
  unfold inR at hzr
  refine r_iload1 (pc2 := 1) dX1_latest_0 rfl ?_
  refine r_iflt (tgt := 18) (pc2 := 4) dX1_latest_1 rfl (by decide) ⟨by omega, by omega⟩ (fun b_1 => ?_) (fun b_1 => ?_)
  · refine r_iconst (pc2 := 19) dX1_latest_18 rfl ?_
    refine r_goto (tgt := 38) dX1_latest_19 (by decide) ?_
    refine r_ireti dX1_latest_38 rfl ?_
    exact ⟨by rw [if_neg (by omega)], rfl⟩
  · refine r_iload1 (pc2 := 5) dX1_latest_4 rfl ?_
    refine r_bipush (pc2 := 7) dX1_latest_5 rfl (by decide) (by decide) ?_
    refine r_icge (tgt := 18) (pc2 := 10) dX1_latest_7 rfl (by decide) ⟨by omega, by omega⟩ ⟨by omega, by omega⟩ (fun b_7 => ?_) (fun b_7 => ?_)
    · refine r_iconst (pc2 := 19) dX1_latest_18 rfl ?_
      refine r_goto (tgt := 38) dX1_latest_19 (by decide) ?_
      refine r_ireti dX1_latest_38 rfl ?_
      exact ⟨by rw [if_neg (by omega)], rfl⟩
    · refine r_iload1 (pc2 := 11) dX1_latest_10 rfl ?_
      refine r_aload0 (pc2 := 12) dX1_latest_11 rfl ?_
      refine r_getI (z := ((x.2.2 : Nat) : Int)) (pc2 := 15) dX1_latest_12 rfl (Or.inl fX1_15) (hK_254 hS) hL.1 ?_
      refine r_iclt (tgt := 22) (pc2 := 18) dX1_latest_15 rfl (by decide) ⟨by omega, by omega⟩ ⟨by omega, by omega⟩ (fun b_15 => ?_) (fun b_15 => ?_)
      · refine r_aload0 (pc2 := 23) dX1_latest_22 rfl ?_
        refine r_getR (pc2 := 26) dX1_latest_23 rfl fX1_11 (hK_254 hS) (hR_254_0 hS) ?_
        refine r_aload0 (pc2 := 27) dX1_latest_26 rfl ?_
        refine r_getI (z := ((x.2.2 : Nat) : Int)) (pc2 := 30) dX1_latest_27 rfl (Or.inl fX1_15) (hK_254 hS) hL.1 ?_
        refine r_iconst (pc2 := 31) dX1_latest_30 rfl ?_
        refine r_isub (c := (((x.2.2 : Nat) : Int) - 1)) (pc2 := 32) dX1_latest_31 rfl rfl ?_
        refine r_iload1 (pc2 := 33) dX1_latest_32 rfl ?_
        refine r_isub (c := ((((x.2.2 : Nat) : Int) - 1) - z)) (pc2 := 34) dX1_latest_33 rfl rfl ?_
        refine r_bipush (pc2 := 36) dX1_latest_34 rfl (by decide) (by decide) ?_
        refine r_irem (pc2 := 37) dX1_latest_36 rfl (by omega) (by omega) (by omega) (by omega) ?_
        refine r_iald (z := (x.2.1 ((((x.2.2 : Nat) : Int) - 1 - z) % 100).toNat)) (pc2 := 38) dX1_latest_37 rfl (hK_255 hS) ((((((x.2.2 : Nat) : Int) - 1) - z) % 100)).toNat (by omega) (by omega) (hL.2 _ (by omega)) ?_
        refine r_ireti dX1_latest_38 rfl ?_
        exact ⟨by rw [if_pos (by omega)], rfl⟩
      · refine r_iconst (pc2 := 19) dX1_latest_18 rfl ?_
        refine r_goto (tgt := 38) dX1_latest_19 (by decide) ?_
        refine r_ireti dX1_latest_38 rfl ?_
        exact ⟨by rw [if_neg (by omega)], rfl⟩
set_option maxHeartbeats 4000000 in
theorem c_X11_logged {d : Nat} {M : pM} {z : Int} {x : rnS} (hS : sOk M.1) (hzr : inR z) (hL : CLg M x) (hn : x.2.2 ≤ 2000000000) : Ct (d + 2) 0 0 yX11_logged [.ref 2, .int (iI z)] M (fun v M2 => v = some (.int (iI (if 0 ≤ z ∧ z < 100 ∧ z < ((x.2.2 : Nat) : Int) then x.2.1 ((((x.2.2 : Nat) : Int) - 1 - z) % 100).toNat else -1))) ∧ M2 = M) := by
  refine ct_in (d := (d + 1)) kX11_logged rfl (by decide) (Nat.le_of_ble_eq_true rfl) (by decide) ?_
  show Go (Ct (d + 1)) _ yX11_logged cX11_logged (some .int) 0 0 0 [some (.ref 2), some (.int (iI z))] [] M
  refine r_aload0 (pc2 := 1) dX11_logged_0 rfl ?_
  refine r_getR (pc2 := 4) dX11_logged_1 rfl fX11_59 (hK_2 hS) (hR_2_7 hS) ?_
  refine r_iload1 (pc2 := 5) dX11_logged_4 rfl ?_
  refine r_cv1 (pc2 := 8) dX11_logged_5 rfl vX11_174 (hK_254 hS) (by decide) (c_X1_latest (d := d) (z := z) (x := x) hS hzr hL hn) ?_
  rintro _ M9 ⟨rfl, h9⟩
  rw [h9]
  show Go (Ct (d + 1)) _ yX11_logged cX11_logged (some .int) 0 0 8 [some (.ref 2), some (.int (iI z))] [.int (iI (if 0 ≤ z ∧ z < 100 ∧ z < ((x.2.2 : Nat) : Int) then x.2.1 ((((x.2.2 : Nat) : Int) - 1 - z) % 100).toNat else -1))] M
  refine r_ireti dX11_logged_8 rfl ?_
  exact ⟨rfl, rfl⟩
