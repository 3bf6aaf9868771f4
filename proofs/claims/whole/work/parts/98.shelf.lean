/-! shelf, both sides -/
theorem sB_is : ∀ i, i < 4 → isB (277 + 10 * i) := by unfold isB; decide
theorem hR252 {M : pM} (h : sOk M.1) {i : Nat} (hi : i < 4) : M.1.2.2 252 i = some (277 + 10 * i) := by
  rw [h.2.1 252 i (by decide) (by decide)]
  have : ∀ i, i < 4 → r0 252 i = some (277 + 10 * i) := by decide
  exact this i hi
set_option maxHeartbeats 4000000 in
theorem c_X12_shelfN {d : Nat} {M : pM} {z bk : Int} (hS : sOk M.1) (hz : ¬ (0 ≤ z ∧ z < 4)) (hzr : inR z) : Ct (d + 2) 0 0 yX12_shelf [.ref 317, .int (iI z), .int (iI bk)] M (fun v M2 => v = some (.int (iI 0)) ∧ M2 = pI M 317 0 0) := by
  refine ct_in (d := (d + 1)) kX12_shelf rfl (by decide) (Nat.le_of_ble_eq_true rfl) (by decide) ?_
  show Go (Ct (d + 1)) _ yX12_shelf cX12_shelf (some .boolean) 0 0 0 [some (.ref 317), some (.int (iI z)), some (.int (iI bk))] [] M
  obtain ⟨zr1, zr2⟩ := hzr
  refine r_aload0 (pc2 := 1) dX12_shelf_0 rfl ?_
  refine r_iconst (pc2 := 2) dX12_shelf_1 rfl ?_
  refine r_putI (z := 0) (pc2 := 5) dX12_shelf_2 rfl fX12_1 (w12_0 _) (hK_317 hS) (by decide) ?_
  refine r_iload1 (pc2 := 6) dX12_shelf_5 rfl ?_
  refine r_cs1 (pc2 := 9) dX12_shelf_6 rfl sX12_357 (by decide) (c_X12_isShelf (d := d) (h := z) ⟨by omega, by omega⟩) ?_
  rintro _ M9 ⟨rfl, h9⟩
  rw [h9, if_neg (show ¬ (0 ≤ z ∧ z < 4) by omega)]
  show Go (Ct (d + 1)) _ yX12_shelf cX12_shelf (some .boolean) 0 0 9 [some (.ref 317), some (.int (iI z)), some (.int (iI bk))] [.int (iI 0)] (pI M 317 0 0)
  refine r_ifeq (tgt := 25) (pc2 := 12) dX12_shelf_9 rfl (by decide) ⟨by omega, by omega⟩ (fun _ => ?_) (fun h9 => absurd h9 (by decide))
  refine r_iconst (pc2 := 26) dX12_shelf_25 rfl ?_
  refine r_iretz dX12_shelf_26 rfl (by omega) ?_
  exact ⟨rfl, rfl⟩
set_option maxHeartbeats 4000000 in
theorem c_X12_shelfE {d : Nat} {M : pM} {s : Nat} {B : Nat → bS} (hS : sOk M.1) (hs : s < 4) (hl : M.2.1 343 s = 0) : Ct (d + 2) 0 0 yX12_shelf [.ref 317, .int (iI ((s : Nat) : Int)), .int (iI 1)] M (fun v M2 => v = some (.int (iI 0)) ∧ M2 = pI M 317 0 0) := by
  refine ct_in (d := (d + 1)) kX12_shelf rfl (by decide) (Nat.le_of_ble_eq_true rfl) (by decide) ?_
  show Go (Ct (d + 1)) _ yX12_shelf cX12_shelf (some .boolean) 0 0 0 [some (.ref 317), some (.int (iI ((s : Nat) : Int))), some (.int (iI 1))] [] M
  refine r_aload0 (pc2 := 1) dX12_shelf_0 rfl ?_
  refine r_iconst (pc2 := 2) dX12_shelf_1 rfl ?_
  refine r_putI (z := 0) (pc2 := 5) dX12_shelf_2 rfl fX12_1 (w12_0 _) (hK_317 hS) (by decide) ?_
  refine r_iload1 (pc2 := 6) dX12_shelf_5 rfl ?_
  refine r_cs1 (pc2 := 9) dX12_shelf_6 rfl sX12_357 (by decide) (c_X12_isShelf (d := d) (h := ((s : Nat) : Int)) ⟨by omega, by omega⟩) ?_
  rintro _ M9 ⟨rfl, h9⟩
  rw [h9, if_pos (show 0 ≤ ((s : Nat) : Int) ∧ ((s : Nat) : Int) < 4 by omega)]
  show Go (Ct (d + 1)) _ yX12_shelf cX12_shelf (some .boolean) 0 0 9 [some (.ref 317), some (.int (iI ((s : Nat) : Int))), some (.int (iI 1))] [.int (iI 1)] (pI M 317 0 0)
  refine r_ifeq (tgt := 25) (pc2 := 12) dX12_shelf_9 rfl (by decide) ⟨by omega, by omega⟩ (fun h9 => absurd h9 (by decide)) (fun _ => ?_)
  refine r_iload2 (pc2 := 13) dX12_shelf_12 rfl ?_
  refine r_ifeq (tgt := 27) (pc2 := 16) dX12_shelf_13 rfl (by decide) ⟨by omega, by omega⟩ (fun h9 => absurd h9 (by decide)) (fun _ => ?_)
  refine r_aload0 (pc2 := 17) dX12_shelf_16 rfl ?_
  refine r_getR (pc2 := 20) dX12_shelf_17 rfl fX12_131 (hK_317 hS) (hR_317_42 hS) ?_
  refine r_iload1 (pc2 := 21) dX12_shelf_20 rfl ?_
  refine r_zald (z := 0) (pc2 := 22) dX12_shelf_21 rfl (hK_343 hS) s rfl (by omega) hl ?_
  refine r_ifne (tgt := 27) (pc2 := 25) dX12_shelf_22 rfl (by decide) ⟨by omega, by omega⟩ (fun h9 => absurd h9 (by decide)) (fun _ => ?_)
  refine r_iconst (pc2 := 26) dX12_shelf_25 rfl ?_
  refine r_iretz dX12_shelf_26 rfl (by omega) ?_
  exact ⟨rfl, rfl⟩
set_option maxHeartbeats 4000000 in
theorem c_X12_shelfB {d : Nat} {M : pM} {s : Nat} {B : Nat → bS} (hS : sOk M.1) (hs : s < 4) (hl : M.2.1 343 s = 1) (hB : MB M B) : Ct (d + 2) 0 0 yX12_shelf [.ref 317, .int (iI ((s : Nat) : Int)), .int (iI 1)] M (fun v M2 => v = some (.int (iI 1)) ∧ frZ M M2 ∧ MB M2 (va_up B 0 (B (1 + s))) ∧ M2.2.1 317 28 = 0 ∧ M2.2.1 343 = M.2.1 343) := by
  refine ct_in (d := (d + 1)) kX12_shelf rfl (by decide) (Nat.le_of_ble_eq_true rfl) (by decide) ?_
  show Go (Ct (d + 1)) _ yX12_shelf cX12_shelf (some .boolean) 0 0 0 [some (.ref 317), some (.int (iI ((s : Nat) : Int))), some (.int (iI 1))] [] M
  refine r_aload0 (pc2 := 1) dX12_shelf_0 rfl ?_
  refine r_iconst (pc2 := 2) dX12_shelf_1 rfl ?_
  refine r_putI (z := 0) (pc2 := 5) dX12_shelf_2 rfl fX12_1 (w12_0 _) (hK_317 hS) (by decide) ?_
  refine r_iload1 (pc2 := 6) dX12_shelf_5 rfl ?_
  refine r_cs1 (pc2 := 9) dX12_shelf_6 rfl sX12_357 (by decide) (c_X12_isShelf (d := d) (h := ((s : Nat) : Int)) ⟨by omega, by omega⟩) ?_
  rintro _ M9 ⟨rfl, h9⟩
  rw [h9, if_pos (show 0 ≤ ((s : Nat) : Int) ∧ ((s : Nat) : Int) < 4 by omega)]
  show Go (Ct (d + 1)) _ yX12_shelf cX12_shelf (some .boolean) 0 0 9 [some (.ref 317), some (.int (iI ((s : Nat) : Int))), some (.int (iI 1))] [.int (iI 1)] (pI M 317 0 0)
  refine r_ifeq (tgt := 25) (pc2 := 12) dX12_shelf_9 rfl (by decide) ⟨by omega, by omega⟩ (fun h9 => absurd h9 (by decide)) (fun _ => ?_)
  refine r_iload2 (pc2 := 13) dX12_shelf_12 rfl ?_
  refine r_ifeq (tgt := 27) (pc2 := 16) dX12_shelf_13 rfl (by decide) ⟨by omega, by omega⟩ (fun h9 => absurd h9 (by decide)) (fun _ => ?_)
  refine r_aload0 (pc2 := 17) dX12_shelf_16 rfl ?_
  refine r_getR (pc2 := 20) dX12_shelf_17 rfl fX12_131 (hK_317 hS) (hR_317_42 hS) ?_
  refine r_iload1 (pc2 := 21) dX12_shelf_20 rfl ?_
  refine r_zald (z := 1) (pc2 := 22) dX12_shelf_21 rfl (hK_343 hS) s rfl (by omega) hl ?_
  refine r_ifne (tgt := 27) (pc2 := 25) dX12_shelf_22 rfl (by decide) ⟨by omega, by omega⟩ (fun _ => ?_) (fun h9 => absurd h9 (by decide))
  refine r_iload2 (pc2 := 28) dX12_shelf_27 rfl ?_
  refine r_ifeq (tgt := 47) (pc2 := 31) dX12_shelf_28 rfl (by decide) ⟨by omega, by omega⟩ (fun h9 => absurd h9 (by decide)) (fun _ => ?_)
  refine r_aload0 (pc2 := 32) dX12_shelf_31 rfl ?_
  refine r_iconst (pc2 := 33) dX12_shelf_32 rfl ?_
  refine r_iload1 (pc2 := 34) dX12_shelf_33 rfl ?_
  refine r_iadd (c := ((1 + s : Nat) : Int)) (pc2 := 35) dX12_shelf_34 rfl (by omega) ?_
  refine r_iconst (pc2 := 36) dX12_shelf_35 rfl ?_
  refine r_cv2 (pc2 := 39) dX12_shelf_36 rfl vX12_256 (hK_317 hS) (by decide) (c_X12_copies (d := d) (s := 1 + s) (t := 0) hS (by omega) (by decide)) ?_
  rintro _ M8 ⟨rfl, h8⟩
  show Go (Ct (d + 1)) _ yX12_shelf cX12_shelf (some .boolean) 0 0 39 [some (.ref 317), some (.int (iI ((s : Nat) : Int))), some (.int (iI 1))] [] M8
  refine r_aload0 (pc2 := 40) dX12_shelf_39 rfl ?_
  refine r_iconst (pc2 := 41) dX12_shelf_40 rfl ?_
  refine r_putI (z := 0) (pc2 := 44) dX12_shelf_41 rfl fX12_279 (w12_28 _) (hK_317 (h8.1.ok hS)) (by decide) ?_
  refine r_goto (tgt := 62) dX12_shelf_44 (by decide) ?_
  refine r_iconst (pc2 := 63) dX12_shelf_62 rfl ?_
  refine r_iretz dX12_shelf_63 rfl (by omega) ?_
  refine ⟨rfl, ⟨((fr.rf.I (by decide)).tr (h8.1.mono (by decide))).I (by decide), fun j j0 j1 => by rw [pI_nk j1, h8.1.i (by decide), pI_nk j0], by rw [pI_nk (by decide), h8.1.i (by decide), pI_at]⟩, ((hB.z (k := 0) (z := 0)).cp (by omega) h8).z, pI_at, by rw [pI_ne (by decide), h8.1.i (by decide), pI_ne (by decide)]⟩
set_option maxHeartbeats 4000000 in
theorem c_X12_shelfP {d : Nat} {M : pM} {s : Nat} {B : Nat → bS} (hS : sOk M.1) (hs : s < 4) (hB : MB M B) : Ct (d + 2) 0 0 yX12_shelf [.ref 317, .int (iI ((s : Nat) : Int)), .int (iI 0)] M (fun v M2 => v = some (.int (iI 1)) ∧ frZ M M2 ∧ MB M2 (va_up B (1 + s) (B 0)) ∧ M2.2.1 317 28 = M.2.1 317 28 ∧ M2.2.1 343 = va_up (M.2.1 343) s 1) := by
  refine ct_in (d := (d + 1)) kX12_shelf rfl (by decide) (Nat.le_of_ble_eq_true rfl) (by decide) ?_
  show Go (Ct (d + 1)) _ yX12_shelf cX12_shelf (some .boolean) 0 0 0 [some (.ref 317), some (.int (iI ((s : Nat) : Int))), some (.int (iI 0))] [] M
  refine r_aload0 (pc2 := 1) dX12_shelf_0 rfl ?_
  refine r_iconst (pc2 := 2) dX12_shelf_1 rfl ?_
  refine r_putI (z := 0) (pc2 := 5) dX12_shelf_2 rfl fX12_1 (w12_0 _) (hK_317 hS) (by decide) ?_
  refine r_iload1 (pc2 := 6) dX12_shelf_5 rfl ?_
  refine r_cs1 (pc2 := 9) dX12_shelf_6 rfl sX12_357 (by decide) (c_X12_isShelf (d := d) (h := ((s : Nat) : Int)) ⟨by omega, by omega⟩) ?_
  rintro _ M9 ⟨rfl, h9⟩
  rw [h9, if_pos (show 0 ≤ ((s : Nat) : Int) ∧ ((s : Nat) : Int) < 4 by omega)]
  show Go (Ct (d + 1)) _ yX12_shelf cX12_shelf (some .boolean) 0 0 9 [some (.ref 317), some (.int (iI ((s : Nat) : Int))), some (.int (iI 0))] [.int (iI 1)] (pI M 317 0 0)
  refine r_ifeq (tgt := 25) (pc2 := 12) dX12_shelf_9 rfl (by decide) ⟨by omega, by omega⟩ (fun h9 => absurd h9 (by decide)) (fun _ => ?_)
  refine r_iload2 (pc2 := 13) dX12_shelf_12 rfl ?_
  refine r_ifeq (tgt := 27) (pc2 := 16) dX12_shelf_13 rfl (by decide) ⟨by omega, by omega⟩ (fun _ => ?_) (fun h9 => absurd h9 (by decide))
  refine r_iload2 (pc2 := 28) dX12_shelf_27 rfl ?_
  refine r_ifeq (tgt := 47) (pc2 := 31) dX12_shelf_28 rfl (by decide) ⟨by omega, by omega⟩ (fun _ => ?_) (fun h9 => absurd h9 (by decide))
  refine r_aload0 (pc2 := 48) dX12_shelf_47 rfl ?_
  refine r_iconst (pc2 := 49) dX12_shelf_48 rfl ?_
  refine r_iconst (pc2 := 50) dX12_shelf_49 rfl ?_
  refine r_iload1 (pc2 := 51) dX12_shelf_50 rfl ?_
  refine r_iadd (c := ((1 + s : Nat) : Int)) (pc2 := 52) dX12_shelf_51 rfl (by omega) ?_
  refine r_cv2 (pc2 := 55) dX12_shelf_52 rfl vX12_256 (hK_317 hS) (by decide) (c_X12_copies (d := d) (s := 0) (t := 1 + s) hS (by decide) (by omega)) ?_
  rintro _ M8 ⟨rfl, h8⟩
  show Go (Ct (d + 1)) _ yX12_shelf cX12_shelf (some .boolean) 0 0 55 [some (.ref 317), some (.int (iI ((s : Nat) : Int))), some (.int (iI 0))] [] M8
  refine r_aload0 (pc2 := 56) dX12_shelf_55 rfl ?_
  refine r_getR (pc2 := 59) dX12_shelf_56 rfl fX12_131 (hK_317 (h8.1.ok hS)) (hR_317_42 (h8.1.ok hS)) ?_
  refine r_iload1 (pc2 := 60) dX12_shelf_59 rfl ?_
  refine r_iconst (pc2 := 61) dX12_shelf_60 rfl ?_
  refine r_zast (z := 1) (pc2 := 62) dX12_shelf_61 rfl (hK_343 (h8.1.ok hS)) (by decide) s rfl (by omega) (by omega) ?_
  refine r_iconst (pc2 := 63) dX12_shelf_62 rfl ?_
  refine r_iretz dX12_shelf_63 rfl (by omega) ?_
  refine ⟨rfl, ⟨((fr.rf.I (by decide)).tr (h8.1.mono (by decide))).I (by decide), fun j j0 j1 => by rw [pI_ne (by decide), h8.1.i (by decide), pI_nk j0], by rw [pI_ne (by decide), h8.1.i (by decide), pI_at]⟩, ((hB.z (k := 0) (z := 0)).cp (by omega) h8).ofl (fr.rf.I (show 343 ∈ [343] by decide)) (by decide), by rw [pI_ne (by decide), h8.1.i (by decide), pI_nk (by decide)], by rw [pI_eq, h8.1.i (by decide), pI_ne (by decide)]⟩
set_option maxHeartbeats 4000000 in
theorem c_X11_shelfN {d : Nat} {M : pM} {z bk : Int} (hS : sOk M.1) (hz : ¬ (0 ≤ z ∧ z < 4)) (hzr : inR z) : Ct (d + 1) 0 0 yX11_shelf [.ref 2, .int (iI z), .int (iI bk)] M (fun v M2 => v = some (.int (iI 0)) ∧ M2 = M) := by
  refine ct_in (d := d) kX11_shelf rfl (by decide) (Nat.le_of_ble_eq_true rfl) (by decide) ?_
  show Go (Ct d) _ yX11_shelf cX11_shelf (some .boolean) 0 0 0 [some (.ref 2), some (.int (iI z)), some (.int (iI bk))] [] M
  obtain ⟨zr1, zr2⟩ := hzr
  refine r_iload1 (pc2 := 1) dX11_shelf_0 rfl ?_
  refine r_iflt (tgt := 22) (pc2 := 4) dX11_shelf_1 rfl (by decide) ⟨by omega, by omega⟩ (fun b_1 => ?_) (fun b_1 => ?_)
  · refine r_iconst (pc2 := 23) dX11_shelf_22 rfl ?_
    refine r_iretz dX11_shelf_23 rfl (by omega) ?_
    exact ⟨rfl, rfl⟩
  · refine r_iload1 (pc2 := 5) dX11_shelf_4 rfl ?_
    refine r_iconst (pc2 := 6) dX11_shelf_5 rfl ?_
    refine r_icge (tgt := 22) (pc2 := 9) dX11_shelf_6 rfl (by decide) ⟨by omega, by omega⟩ ⟨by omega, by omega⟩ (fun b_6 => ?_) (fun b_6 => ?_)
    · refine r_iconst (pc2 := 23) dX11_shelf_22 rfl ?_
      refine r_iretz dX11_shelf_23 rfl (by omega) ?_
      exact ⟨rfl, rfl⟩
    · exact absurd hz (by omega)
set_option maxHeartbeats 4000000 in
theorem c_X11_shelfE {d : Nat} {M : pM} {s : Nat} (hS : sOk M.1) (hs : s < 4) (hl : M.2.1 253 s = 0) : Ct (d + 1) 0 0 yX11_shelf [.ref 2, .int (iI ((s : Nat) : Int)), .int (iI 1)] M (fun v M2 => v = some (.int (iI 0)) ∧ M2 = M) := by
  refine ct_in (d := d) kX11_shelf rfl (by decide) (Nat.le_of_ble_eq_true rfl) (by decide) ?_
  show Go (Ct d) _ yX11_shelf cX11_shelf (some .boolean) 0 0 0 [some (.ref 2), some (.int (iI ((s : Nat) : Int))), some (.int (iI 1))] [] M
  refine r_iload1 (pc2 := 1) dX11_shelf_0 rfl ?_
  refine r_iflt (tgt := 22) (pc2 := 4) dX11_shelf_1 rfl (by decide) ⟨by omega, by omega⟩ (fun b_1 => ?_) (fun b_1 => ?_)
  · refine r_iconst (pc2 := 23) dX11_shelf_22 rfl ?_
    refine r_iretz dX11_shelf_23 rfl (by omega) ?_
    exact absurd b_1 (by omega)
  · refine r_iload1 (pc2 := 5) dX11_shelf_4 rfl ?_
    refine r_iconst (pc2 := 6) dX11_shelf_5 rfl ?_
    refine r_icge (tgt := 22) (pc2 := 9) dX11_shelf_6 rfl (by decide) ⟨by omega, by omega⟩ ⟨by omega, by omega⟩ (fun b_6 => ?_) (fun b_6 => ?_)
    · refine r_iconst (pc2 := 23) dX11_shelf_22 rfl ?_
      refine r_iretz dX11_shelf_23 rfl (by omega) ?_
      exact absurd b_6 (by omega)
    · refine r_iload2 (pc2 := 10) dX11_shelf_9 rfl ?_
      refine r_ifeq (tgt := 24) (pc2 := 13) dX11_shelf_10 rfl (by decide) ⟨by omega, by omega⟩ (fun h9 => absurd h9 (by decide)) (fun _ => ?_)
      refine r_aload0 (pc2 := 14) dX11_shelf_13 rfl ?_
      refine r_getR (pc2 := 17) dX11_shelf_14 rfl fX11_52 (hK_2 hS) (hR_2_6 hS) ?_
      refine r_iload1 (pc2 := 18) dX11_shelf_17 rfl ?_
      refine r_zald (z := 0) (pc2 := 19) dX11_shelf_18 rfl (hK_253 hS) s rfl (by omega) hl ?_
      refine r_ifne (tgt := 24) (pc2 := 22) dX11_shelf_19 rfl (by decide) ⟨by omega, by omega⟩ (fun h9 => absurd h9 (by decide)) (fun _ => ?_)
      refine r_iconst (pc2 := 23) dX11_shelf_22 rfl ?_
      refine r_iretz dX11_shelf_23 rfl (by omega) ?_
      exact ⟨rfl, rfl⟩
set_option maxHeartbeats 4000000 in
theorem c_X11_shelfB {d : Nat} {M : pM} {s k f : Nat} {X : bS} {B : Nat → bS} {ix : Nat → Nat} (hS : sOk M.1) (hs : s < 4) (hl : M.2.1 253 s = 1) (hC : CF M (277 + 10 * s) X ix) (hA : CPa M B k f) : Ct (d + 2) 0 0 yX11_shelf [.ref 2, .int (iI ((s : Nat) : Int)), .int (iI 1)] M (fun v M2 => v = some (.int (iI 1)) ∧ frB M M2 ∧ CF M2 19 X ix ∧ CPa M2 B 0 f) := by
  refine ct_in (d := (d + 1)) kX11_shelf rfl (by decide) (Nat.le_of_ble_eq_true rfl) (by decide) ?_
  show Go (Ct (d + 1)) _ yX11_shelf cX11_shelf (some .boolean) 0 0 0 [some (.ref 2), some (.int (iI ((s : Nat) : Int))), some (.int (iI 1))] [] M
  have hb_b : isB (277 + 10 * s) := sB_is s hs
  obtain ⟨b, eb⟩ : ∃ b, b = 277 + 10 * s := ⟨_, rfl⟩
  rw [← eb] at hb_b
  have h252 : M.1.2.2 252 s = some b := by rw [eb]; exact hR252 hS hs
  refine r_iload1 (pc2 := 1) dX11_shelf_0 rfl ?_
  refine r_iflt (tgt := 22) (pc2 := 4) dX11_shelf_1 rfl (by decide) ⟨by omega, by omega⟩ (fun b_1 => ?_) (fun b_1 => ?_)
  · refine r_iconst (pc2 := 23) dX11_shelf_22 rfl ?_
    refine r_iretz dX11_shelf_23 rfl (by omega) ?_
    exact absurd b_1 (by omega)
  · refine r_iload1 (pc2 := 5) dX11_shelf_4 rfl ?_
    refine r_iconst (pc2 := 6) dX11_shelf_5 rfl ?_
    refine r_icge (tgt := 22) (pc2 := 9) dX11_shelf_6 rfl (by decide) ⟨by omega, by omega⟩ ⟨by omega, by omega⟩ (fun b_6 => ?_) (fun b_6 => ?_)
    · refine r_iconst (pc2 := 23) dX11_shelf_22 rfl ?_
      refine r_iretz dX11_shelf_23 rfl (by omega) ?_
      exact absurd b_6 (by omega)
    · refine r_iload2 (pc2 := 10) dX11_shelf_9 rfl ?_
      refine r_ifeq (tgt := 24) (pc2 := 13) dX11_shelf_10 rfl (by decide) ⟨by omega, by omega⟩ (fun h9 => absurd h9 (by decide)) (fun _ => ?_)
      refine r_aload0 (pc2 := 14) dX11_shelf_13 rfl ?_
      refine r_getR (pc2 := 17) dX11_shelf_14 rfl fX11_52 (hK_2 hS) (hR_2_6 hS) ?_
      refine r_iload1 (pc2 := 18) dX11_shelf_17 rfl ?_
      refine r_zald (z := 1) (pc2 := 19) dX11_shelf_18 rfl (hK_253 hS) s rfl (by omega) hl ?_
      refine r_ifne (tgt := 24) (pc2 := 22) dX11_shelf_19 rfl (by decide) ⟨by omega, by omega⟩ (fun _ => ?_) (fun h9 => absurd h9 (by decide))
      refine r_iload2 (pc2 := 25) dX11_shelf_24 rfl ?_
      refine r_ifeq (tgt := 55) (pc2 := 28) dX11_shelf_25 rfl (by decide) ⟨by omega, by omega⟩ (fun h9 => absurd h9 (by decide)) (fun _ => ?_)
      refine r_aload0 (pc2 := 29) dX11_shelf_28 rfl ?_
      refine r_getR (pc2 := 32) dX11_shelf_29 rfl fX11_28 (hK_2 hS) (hR_2_2 hS) ?_
      refine r_aload0 (pc2 := 33) dX11_shelf_32 rfl ?_
      refine r_getR (pc2 := 36) dX11_shelf_33 rfl fX11_48 (hK_2 hS) (hR_2_5 hS) ?_
      refine r_iload1 (pc2 := 37) dX11_shelf_36 rfl ?_
      refine r_aald (pc2 := 38) dX11_shelf_37 rfl (hK_252 hS) s rfl (by omega) h252 ?_
      refine r_cv1 (pc2 := 41) dX11_shelf_38 rfl vX11_114 (hK_19 hS) (by decide) (c_X0_copy (d := d) (s := b) (t := 19) hS hb_b isB_19 (by omega)) ?_
      rintro _ M1 ⟨rfl, h1⟩
      have hS1 := h1.1.ok hS
      show Go (Ct (d + 1)) _ yX11_shelf cX11_shelf (some .boolean) 0 0 41 [some (.ref 2), some (.int (iI ((s : Nat) : Int))), some (.int (iI 1))] [] M1
      refine r_aload0 (pc2 := 42) dX11_shelf_41 rfl ?_
      refine r_getR (pc2 := 45) dX11_shelf_42 rfl fX11_44 (hK_2 hS1) (hR_2_4 hS1) ?_
      refine r_iconst (pc2 := 46) dX11_shelf_45 rfl ?_
      refine r_putI (z := 0) (pc2 := 49) dX11_shelf_46 rfl fX11_127 (w3_2 _) (hK_40 hS1) (by decide) ?_
      refine r_aload0 (pc2 := 50) dX11_shelf_49 rfl ?_
      refine r_cv0 (pc2 := 53) dX11_shelf_50 rfl vX11_124 (hK_2 hS1) (by decide) (c_X11_forgetSearches (d := d) (M := pI M1 40 2 0) hS1) ?_
      rintro _ M3 ⟨rfl, h3⟩
      show Go (Ct (d + 1)) _ yX11_shelf cX11_shelf (some .boolean) 0 0 53 [some (.ref 2), some (.int (iI ((s : Nat) : Int))), some (.int (iI 1))] [] M3
      refine r_iconst (pc2 := 54) dX11_shelf_53 rfl ?_
      refine r_iretz dX11_shelf_54 rfl (by omega) ?_
      rw [← eb] at hC
      refine ⟨rfl, ⟨by rw [h3]; exact h1.1.1, fun a a1 a2 a3 a4 => ?_, fun j hj => ?_, fun j hj => ?_, ?_, ?_⟩, (hC.cp h1).of (fun a a1 a2 => ?_), ?_⟩
      · rw [h3, pI_ne a4, pI_ne a3, pI_ne a2]; exact h1.1.2 a (bcl_not (by omega))
      · rw [h3, pI_ne (by decide), pI_nk hj, pI_ne (by decide), h1.1.i (bcl_not (by omega))]
      · rw [h3, pI_nk hj, pI_ne (by decide), pI_ne (by decide), h1.1.i (bcl_not (by omega))]
      · rw [h3, pI_ne (by decide), pI_at]
      · rw [h3, pI_at]
      · rw [h3, pI_ne (by omega), pI_ne (by omega), pI_ne (by omega)]; exact ⟨rfl, rfl⟩
      · refine ⟨⟨?_, ?_, hA.1.2.2.1, by omega⟩, fun i hi => absurd hi (by omega)⟩
        · rw [h3, pI_ne (by decide), pI_ne (by decide), pI_nk (by decide), h1.1.i (bcl_not (by omega))]; exact hA.1.1
        · rw [h3, pI_ne (by decide), pI_ne (by decide), pI_at]; rfl
def frH (s : Nat) (M M2 : pM) : Prop := M2.1 = M.1 ∧ (∀ a, ¬ (277 + 10 * s ≤ a ∧ a ≤ 286 + 10 * s) → a ≠ 253 → a ≠ 264 → a ≠ 270 → M2.2.1 a = M.2.1 a ∧ M2.2.2 a = M.2.2 a) ∧ M2.2.1 253 = va_up (M.2.1 253) s 1 ∧ (∀ j, j ≠ 1 → M2.2.1 264 j = M.2.1 264 j) ∧ (∀ j, j ≠ 8 → M2.2.1 270 j = M.2.1 270 j) ∧ M2.2.1 264 1 = 0 ∧ M2.2.1 270 8 = -1
set_option maxHeartbeats 4000000 in
theorem c_X11_shelfP {d : Nat} {M : pM} {s : Nat} {X : bS} {ix : Nat → Nat} (hS : sOk M.1) (hs : s < 4) (hC : CF M 19 X ix) : Ct (d + 2) 0 0 yX11_shelf [.ref 2, .int (iI ((s : Nat) : Int)), .int (iI 0)] M (fun v M2 => v = some (.int (iI 1)) ∧ frH s M M2 ∧ CF M2 (277 + 10 * s) X ix ∧ CF M2 19 X ix) := by
  refine ct_in (d := (d + 1)) kX11_shelf rfl (by decide) (Nat.le_of_ble_eq_true rfl) (by decide) ?_
  show Go (Ct (d + 1)) _ yX11_shelf cX11_shelf (some .boolean) 0 0 0 [some (.ref 2), some (.int (iI ((s : Nat) : Int))), some (.int (iI 0))] [] M
  have hb_b : isB (277 + 10 * s) := sB_is s hs
  obtain ⟨b, eb⟩ : ∃ b, b = 277 + 10 * s := ⟨_, rfl⟩
  rw [← eb] at hb_b
  have h252 : M.1.2.2 252 s = some b := by rw [eb]; exact hR252 hS hs
  refine r_iload1 (pc2 := 1) dX11_shelf_0 rfl ?_
  refine r_iflt (tgt := 22) (pc2 := 4) dX11_shelf_1 rfl (by decide) ⟨by omega, by omega⟩ (fun b_1 => ?_) (fun b_1 => ?_)
  · refine r_iconst (pc2 := 23) dX11_shelf_22 rfl ?_
    refine r_iretz dX11_shelf_23 rfl (by omega) ?_
    exact absurd b_1 (by omega)
  · refine r_iload1 (pc2 := 5) dX11_shelf_4 rfl ?_
    refine r_iconst (pc2 := 6) dX11_shelf_5 rfl ?_
    refine r_icge (tgt := 22) (pc2 := 9) dX11_shelf_6 rfl (by decide) ⟨by omega, by omega⟩ ⟨by omega, by omega⟩ (fun b_6 => ?_) (fun b_6 => ?_)
    · refine r_iconst (pc2 := 23) dX11_shelf_22 rfl ?_
      refine r_iretz dX11_shelf_23 rfl (by omega) ?_
      exact absurd b_6 (by omega)
    · refine r_iload2 (pc2 := 10) dX11_shelf_9 rfl ?_
      refine r_ifeq (tgt := 24) (pc2 := 13) dX11_shelf_10 rfl (by decide) ⟨by omega, by omega⟩ (fun _ => ?_) (fun h9 => absurd h9 (by decide))
      refine r_iload2 (pc2 := 25) dX11_shelf_24 rfl ?_
      refine r_ifeq (tgt := 55) (pc2 := 28) dX11_shelf_25 rfl (by decide) ⟨by omega, by omega⟩ (fun _ => ?_) (fun h9 => absurd h9 (by decide))
      refine r_aload0 (pc2 := 56) dX11_shelf_55 rfl ?_
      refine r_getR (pc2 := 59) dX11_shelf_56 rfl fX11_48 (hK_2 hS) (hR_2_5 hS) ?_
      refine r_iload1 (pc2 := 60) dX11_shelf_59 rfl ?_
      refine r_aald (pc2 := 61) dX11_shelf_60 rfl (hK_252 hS) s rfl (by omega) h252 ?_
      refine r_aload0 (pc2 := 62) dX11_shelf_61 rfl ?_
      refine r_getR (pc2 := 65) dX11_shelf_62 rfl fX11_28 (hK_2 hS) (hR_2_2 hS) ?_
      refine r_cv1 (pc2 := 68) dX11_shelf_65 rfl vX11_114 (hKb hS hb_b) (by decide) (c_X0_copy (d := d) (s := 19) (t := b) hS isB_19 hb_b (by omega)) ?_
      rintro _ M1 ⟨rfl, h1⟩
      have hS1 := h1.1.ok hS
      show Go (Ct (d + 1)) _ yX11_shelf cX11_shelf (some .boolean) 0 0 68 [some (.ref 2), some (.int (iI ((s : Nat) : Int))), some (.int (iI 0))] [] M1
      refine r_aload0 (pc2 := 69) dX11_shelf_68 rfl ?_
      refine r_getR (pc2 := 72) dX11_shelf_69 rfl fX11_52 (hK_2 hS1) (hR_2_6 hS1) ?_
      refine r_iload1 (pc2 := 73) dX11_shelf_72 rfl ?_
      refine r_iconst (pc2 := 74) dX11_shelf_73 rfl ?_
      refine r_zast (z := 1) (pc2 := 75) dX11_shelf_74 rfl (hK_253 hS1) (by decide) s rfl (by omega) (by omega) ?_
      refine r_aload0 (pc2 := 76) dX11_shelf_75 rfl ?_
      refine r_getR (pc2 := 79) dX11_shelf_76 rfl fX11_80 (hK_2 hS1) (hR_2_10 hS1) ?_
      refine r_iconst (pc2 := 80) dX11_shelf_79 rfl ?_
      refine r_putZ (z := 0) (pc2 := 83) dX11_shelf_80 rfl fX11_187 (w9_1 _) (hK_264 hS1) (by decide) (by omega) ?_
      refine r_aload0 (pc2 := 84) dX11_shelf_83 rfl ?_
      refine r_getR (pc2 := 87) dX11_shelf_84 rfl fX11_94 (hK_2 hS1) (hR_2_12 hS1) ?_
      refine r_iconst (pc2 := 88) dX11_shelf_87 rfl ?_
      refine r_putI (z := (-1)) (pc2 := 91) dX11_shelf_88 rfl fX11_191 (w7_8 _) (hK_270 hS1) (by decide) ?_
      refine r_iconst (pc2 := 92) dX11_shelf_91 rfl ?_
      refine r_iretz dX11_shelf_92 rfl (by omega) ?_
      have n1 : ∀ a, a < b ∨ b + 9 < a → M1.2.1 a = M.2.1 a ∧ M1.2.2 a = M.2.2 a := fun a ha => h1.1.2 a (bcl_not ha)
      refine ⟨rfl, ⟨h1.1.1, fun a a1 a2 a3 a4 => ?_, ?_, fun j hj => ?_, fun j hj => ?_, ?_, pI_at⟩, ?_, ?_⟩
      · rw [pI_ne a4, pI_ne a3, pI_ne a2]; exact n1 a (by omega)
      · rw [pI_ne (by decide), pI_ne (by decide), pI_eq, (n1 253 (by omega)).1]
      · rw [pI_ne (by decide), pI_nk hj, pI_ne (by decide), (n1 264 (by omega)).1]
      · rw [pI_nk hj, pI_ne (by decide), pI_ne (by decide), (n1 270 (by omega)).1]
      · rw [pI_ne (by decide), pI_at]
      · rw [← eb]; exact (hC.cp h1).of (fun a a1 a2 => by rw [pI_ne (by omega), pI_ne (by omega), pI_ne (by omega)]; exact ⟨rfl, rfl⟩)
      · exact (hC.cpo isB_19 hb_b (by omega) h1).of (fun a a1 a2 => by rw [pI_ne (by omega), pI_ne (by omega), pI_ne (by omega)]; exact ⟨rfl, rfl⟩)
