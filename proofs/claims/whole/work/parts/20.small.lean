theorem ct_in {y : MethodName} {cc : ByteArray} {mL d kc ks : Nat} {rt : Option FieldType} {as : List Value} {M : pM} {Q : pQ} (hk : Cond.code y cc mL rt ∈ lw_tbl) (hp : plainName y.cls = true) (hm : mL ≤ 30) (hl : (pSls as).length ≤ mL) (hi : y.name = "<init>" → rt = none) (g : Go (Ct d) Q y cc rt kc ks 0 (pEnt as mL) [] M) : Ct (d + 1) kc ks y as M Q := ⟨cc, mL, rt, hk, plainFor_of_name hp, hm, hl, hi, g⟩
theorem ct_inF {y : MethodName} {cc : ByteArray} {mL d kc ks : Nat} {rt : Option FieldType} {as : List Value} {M : pM} {Q : pQ} (hk : Cond.code y cc mL rt ∈ lw_tbl) (hp : plainFor y = true) (hm : mL ≤ 30) (hl : (pSls as).length ≤ mL) (hi : y.name = "<init>" → rt = none) (g : Go (Ct d) Q y cc rt kc ks 0 (pEnt as mL) [] M) : Ct (d + 1) kc ks y as M Q := ⟨cc, mL, rt, hk, hp, hm, hl, hi, g⟩
theorem inR_def {z : Int} : inR z ↔ -2147483648 ≤ z ∧ z < 2147483648 := Iff.rfl
set_option maxHeartbeats 4000000 in
theorem c_X11_isPlace {d : Nat} {M : pM} {c r : Int} (hc : inR c) (hr : inR r) : Ct (d + 1) 0 0 yX11_isPlace [.int (iI c), .int (iI r)] M (fun v M2 => v = some (.int (iI (if 0 ≤ c ∧ c < 13 ∧ 0 ≤ r ∧ r < 12 then 1 else 0))) ∧ M2 = M) := by
  refine ct_in (d := d) kX11_isPlace rfl (by decide) (Nat.le_of_ble_eq_true rfl) (by decide) ?_
  show Go (Ct d) _ yX11_isPlace cX11_isPlace (some .boolean) 0 0 0 [some (.int (iI c)), some (.int (iI r))] [] M
  obtain ⟨c1, c2⟩ := hc
  obtain ⟨r1, r2⟩ := hr
  refine r_iload0 (pc2 := 1) dX11_isPlace_0 rfl ?_
  refine r_iflt (tgt := 24) (pc2 := 4) dX11_isPlace_1 rfl (by decide) ⟨by omega, by omega⟩ (fun b_1 => ?_) (fun b_1 => ?_)
  · refine r_iconst (pc2 := 25) dX11_isPlace_24 rfl ?_
    refine r_iretz dX11_isPlace_25 rfl (by omega) ?_
    exact ⟨by first | rfl | (rw [if_pos (by omega)]) | (rw [if_neg (by omega)]), rfl⟩
  · refine r_iload0 (pc2 := 5) dX11_isPlace_4 rfl ?_
    refine r_bipush (pc2 := 7) dX11_isPlace_5 rfl (by decide) (by decide) ?_
    refine r_icge (tgt := 24) (pc2 := 10) dX11_isPlace_7 rfl (by decide) ⟨by omega, by omega⟩ ⟨by omega, by omega⟩ (fun b_7 => ?_) (fun b_7 => ?_)
    · refine r_iconst (pc2 := 25) dX11_isPlace_24 rfl ?_
      refine r_iretz dX11_isPlace_25 rfl (by omega) ?_
      exact ⟨by first | rfl | (rw [if_pos (by omega)]) | (rw [if_neg (by omega)]), rfl⟩
    · refine r_iload1 (pc2 := 11) dX11_isPlace_10 rfl ?_
      refine r_iflt (tgt := 24) (pc2 := 14) dX11_isPlace_11 rfl (by decide) ⟨by omega, by omega⟩ (fun b_11 => ?_) (fun b_11 => ?_)
      · refine r_iconst (pc2 := 25) dX11_isPlace_24 rfl ?_
        refine r_iretz dX11_isPlace_25 rfl (by omega) ?_
        exact ⟨by first | rfl | (rw [if_pos (by omega)]) | (rw [if_neg (by omega)]), rfl⟩
      · refine r_iload1 (pc2 := 15) dX11_isPlace_14 rfl ?_
        refine r_bipush (pc2 := 17) dX11_isPlace_15 rfl (by decide) (by decide) ?_
        refine r_icge (tgt := 24) (pc2 := 20) dX11_isPlace_17 rfl (by decide) ⟨by omega, by omega⟩ ⟨by omega, by omega⟩ (fun b_17 => ?_) (fun b_17 => ?_)
        · refine r_iconst (pc2 := 25) dX11_isPlace_24 rfl ?_
          refine r_iretz dX11_isPlace_25 rfl (by omega) ?_
          exact ⟨by first | rfl | (rw [if_pos (by omega)]) | (rw [if_neg (by omega)]), rfl⟩
        · refine r_iconst (pc2 := 21) dX11_isPlace_20 rfl ?_
          refine r_goto (tgt := 25) dX11_isPlace_21 (by decide) ?_
          refine r_iretz dX11_isPlace_25 rfl (by omega) ?_
          exact ⟨by first | rfl | (rw [if_pos (by omega)]) | (rw [if_neg (by omega)]), rfl⟩
set_option maxHeartbeats 4000000 in
theorem c_X11_isHopper {d : Nat} {M : pM} {h : Int} (hh : inR h) : Ct (d + 1) 0 0 yX11_isHopper [.int (iI h)] M (fun v M2 => v = some (.int (iI (if 0 ≤ h ∧ h < 4 then 1 else 0))) ∧ M2 = M) := by
  refine ct_in (d := d) kX11_isHopper rfl (by decide) (Nat.le_of_ble_eq_true rfl) (by decide) ?_
  show Go (Ct d) _ yX11_isHopper cX11_isHopper (some .boolean) 0 0 0 [some (.int (iI h))] [] M
  obtain ⟨h1, h2⟩ := hh
  refine r_iload0 (pc2 := 1) dX11_isHopper_0 rfl ?_
  refine r_iflt (tgt := 13) (pc2 := 4) dX11_isHopper_1 rfl (by decide) ⟨by omega, by omega⟩ (fun b_1 => ?_) (fun b_1 => ?_)
  · refine r_iconst (pc2 := 14) dX11_isHopper_13 rfl ?_
    refine r_iretz dX11_isHopper_14 rfl (by omega) ?_
    exact ⟨by first | rfl | (rw [if_pos (by omega)]) | (rw [if_neg (by omega)]), rfl⟩
  · refine r_iload0 (pc2 := 5) dX11_isHopper_4 rfl ?_
    refine r_iconst (pc2 := 6) dX11_isHopper_5 rfl ?_
    refine r_icge (tgt := 13) (pc2 := 9) dX11_isHopper_6 rfl (by decide) ⟨by omega, by omega⟩ ⟨by omega, by omega⟩ (fun b_6 => ?_) (fun b_6 => ?_)
    · refine r_iconst (pc2 := 14) dX11_isHopper_13 rfl ?_
      refine r_iretz dX11_isHopper_14 rfl (by omega) ?_
      exact ⟨by first | rfl | (rw [if_pos (by omega)]) | (rw [if_neg (by omega)]), rfl⟩
    · refine r_iconst (pc2 := 10) dX11_isHopper_9 rfl ?_
      refine r_goto (tgt := 14) dX11_isHopper_10 (by decide) ?_
      refine r_iretz dX11_isHopper_14 rfl (by omega) ?_
      exact ⟨by first | rfl | (rw [if_pos (by omega)]) | (rw [if_neg (by omega)]), rfl⟩
set_option maxHeartbeats 4000000 in
theorem c_X12_isPlace {d : Nat} {M : pM} {c r : Int} (hc : inR c) (hr : inR r) : Ct (d + 1) 0 0 yX12_isPlace [.int (iI c), .int (iI r)] M (fun v M2 => v = some (.int (iI (if 0 ≤ c ∧ c < 13 ∧ 0 ≤ r ∧ r < 12 then 1 else 0))) ∧ M2 = M) := by
  refine ct_in (d := d) kX12_isPlace rfl (by decide) (Nat.le_of_ble_eq_true rfl) (by decide) ?_
  show Go (Ct d) _ yX12_isPlace cX12_isPlace (some .boolean) 0 0 0 [some (.int (iI c)), some (.int (iI r))] [] M
  obtain ⟨c1, c2⟩ := hc
  obtain ⟨r1, r2⟩ := hr
  refine r_iload0 (pc2 := 1) dX12_isPlace_0 rfl ?_
  refine r_iflt (tgt := 24) (pc2 := 4) dX12_isPlace_1 rfl (by decide) ⟨by omega, by omega⟩ (fun b_1 => ?_) (fun b_1 => ?_)
  · refine r_iconst (pc2 := 25) dX12_isPlace_24 rfl ?_
    refine r_iretz dX12_isPlace_25 rfl (by omega) ?_
    exact ⟨by first | rfl | (rw [if_pos (by omega)]) | (rw [if_neg (by omega)]), rfl⟩
  · refine r_iload0 (pc2 := 5) dX12_isPlace_4 rfl ?_
    refine r_bipush (pc2 := 7) dX12_isPlace_5 rfl (by decide) (by decide) ?_
    refine r_icge (tgt := 24) (pc2 := 10) dX12_isPlace_7 rfl (by decide) ⟨by omega, by omega⟩ ⟨by omega, by omega⟩ (fun b_7 => ?_) (fun b_7 => ?_)
    · refine r_iconst (pc2 := 25) dX12_isPlace_24 rfl ?_
      refine r_iretz dX12_isPlace_25 rfl (by omega) ?_
      exact ⟨by first | rfl | (rw [if_pos (by omega)]) | (rw [if_neg (by omega)]), rfl⟩
    · refine r_iload1 (pc2 := 11) dX12_isPlace_10 rfl ?_
      refine r_iflt (tgt := 24) (pc2 := 14) dX12_isPlace_11 rfl (by decide) ⟨by omega, by omega⟩ (fun b_11 => ?_) (fun b_11 => ?_)
      · refine r_iconst (pc2 := 25) dX12_isPlace_24 rfl ?_
        refine r_iretz dX12_isPlace_25 rfl (by omega) ?_
        exact ⟨by first | rfl | (rw [if_pos (by omega)]) | (rw [if_neg (by omega)]), rfl⟩
      · refine r_iload1 (pc2 := 15) dX12_isPlace_14 rfl ?_
        refine r_bipush (pc2 := 17) dX12_isPlace_15 rfl (by decide) (by decide) ?_
        refine r_icge (tgt := 24) (pc2 := 20) dX12_isPlace_17 rfl (by decide) ⟨by omega, by omega⟩ ⟨by omega, by omega⟩ (fun b_17 => ?_) (fun b_17 => ?_)
        · refine r_iconst (pc2 := 25) dX12_isPlace_24 rfl ?_
          refine r_iretz dX12_isPlace_25 rfl (by omega) ?_
          exact ⟨by first | rfl | (rw [if_pos (by omega)]) | (rw [if_neg (by omega)]), rfl⟩
        · refine r_iconst (pc2 := 21) dX12_isPlace_20 rfl ?_
          refine r_goto (tgt := 25) dX12_isPlace_21 (by decide) ?_
          refine r_iretz dX12_isPlace_25 rfl (by omega) ?_
          exact ⟨by first | rfl | (rw [if_pos (by omega)]) | (rw [if_neg (by omega)]), rfl⟩
set_option maxHeartbeats 4000000 in
theorem c_X12_isHopper {d : Nat} {M : pM} {h : Int} (hh : inR h) : Ct (d + 1) 0 0 yX12_isHopper [.int (iI h)] M (fun v M2 => v = some (.int (iI (if 0 ≤ h ∧ h < 4 then 1 else 0))) ∧ M2 = M) := by
  refine ct_in (d := d) kX12_isHopper rfl (by decide) (Nat.le_of_ble_eq_true rfl) (by decide) ?_
  show Go (Ct d) _ yX12_isHopper cX12_isHopper (some .boolean) 0 0 0 [some (.int (iI h))] [] M
  obtain ⟨h1, h2⟩ := hh
  refine r_iload0 (pc2 := 1) dX12_isHopper_0 rfl ?_
  refine r_iflt (tgt := 13) (pc2 := 4) dX12_isHopper_1 rfl (by decide) ⟨by omega, by omega⟩ (fun b_1 => ?_) (fun b_1 => ?_)
  · refine r_iconst (pc2 := 14) dX12_isHopper_13 rfl ?_
    refine r_iretz dX12_isHopper_14 rfl (by omega) ?_
    exact ⟨by first | rfl | (rw [if_pos (by omega)]) | (rw [if_neg (by omega)]), rfl⟩
  · refine r_iload0 (pc2 := 5) dX12_isHopper_4 rfl ?_
    refine r_iconst (pc2 := 6) dX12_isHopper_5 rfl ?_
    refine r_icge (tgt := 13) (pc2 := 9) dX12_isHopper_6 rfl (by decide) ⟨by omega, by omega⟩ ⟨by omega, by omega⟩ (fun b_6 => ?_) (fun b_6 => ?_)
    · refine r_iconst (pc2 := 14) dX12_isHopper_13 rfl ?_
      refine r_iretz dX12_isHopper_14 rfl (by omega) ?_
      exact ⟨by first | rfl | (rw [if_pos (by omega)]) | (rw [if_neg (by omega)]), rfl⟩
    · refine r_iconst (pc2 := 10) dX12_isHopper_9 rfl ?_
      refine r_goto (tgt := 14) dX12_isHopper_10 (by decide) ?_
      refine r_iretz dX12_isHopper_14 rfl (by omega) ?_
      exact ⟨by first | rfl | (rw [if_pos (by omega)]) | (rw [if_neg (by omega)]), rfl⟩
set_option maxHeartbeats 4000000 in
theorem c_X11_placeOf {d : Nat} {M : pM} {c r : Int}  : Ct (d + 1) 0 0 yX11_placeOf [.int (iI c), .int (iI r)] M (fun v M2 => v = some (.int (iI (13 * r + c))) ∧ M2 = M) := by
  refine ct_in (d := d) kX11_placeOf rfl (by decide) (Nat.le_of_ble_eq_true rfl) (by decide) ?_
  show Go (Ct d) _ yX11_placeOf cX11_placeOf (some .int) 0 0 0 [some (.int (iI c)), some (.int (iI r))] [] M
  refine r_bipush (pc2 := 2) dX11_placeOf_0 rfl (by decide) (by decide) ?_
  refine r_iload1 (pc2 := 3) dX11_placeOf_2 rfl ?_
  refine r_imul (c := (13 * r)) (pc2 := 4) dX11_placeOf_3 rfl rfl ?_
  refine r_iload0 (pc2 := 5) dX11_placeOf_4 rfl ?_
  refine r_iadd (c := ((13 * r) + c)) (pc2 := 6) dX11_placeOf_5 rfl rfl ?_
  refine r_ireti dX11_placeOf_6 rfl ?_
  exact ⟨by first | rfl | (rw [if_pos (by omega)]) | (rw [if_neg (by omega)]), rfl⟩
set_option maxHeartbeats 4000000 in
theorem c_X12_isShelf {d : Nat} {M : pM} {h : Int} (hh : inR h) : Ct (d + 1) 0 0 yX12_isShelf [.int (iI h)] M (fun v M2 => v = some (.int (iI (if 0 ≤ h ∧ h < 4 then 1 else 0))) ∧ M2 = M) := by
  refine ct_in (d := d) kX12_isShelf rfl (by decide) (Nat.le_of_ble_eq_true rfl) (by decide) ?_
  show Go (Ct d) _ yX12_isShelf cX12_isShelf (some .boolean) 0 0 0 [some (.int (iI h))] [] M
  obtain ⟨h1, h2⟩ := hh
  refine r_iload0 (pc2 := 1) dX12_isShelf_0 rfl ?_
  refine r_iflt (tgt := 13) (pc2 := 4) dX12_isShelf_1 rfl (by decide) ⟨by omega, by omega⟩ (fun b_1 => ?_) (fun b_1 => ?_)
  · refine r_iconst (pc2 := 14) dX12_isShelf_13 rfl ?_
    refine r_iretz dX12_isShelf_14 rfl (by omega) ?_
    exact ⟨by first | rfl | (rw [if_pos (by omega)]) | (rw [if_neg (by omega)]), rfl⟩
  · refine r_iload0 (pc2 := 5) dX12_isShelf_4 rfl ?_
    refine r_iconst (pc2 := 6) dX12_isShelf_5 rfl ?_
    refine r_icge (tgt := 13) (pc2 := 9) dX12_isShelf_6 rfl (by decide) ⟨by omega, by omega⟩ ⟨by omega, by omega⟩ (fun b_6 => ?_) (fun b_6 => ?_)
    · refine r_iconst (pc2 := 14) dX12_isShelf_13 rfl ?_
      refine r_iretz dX12_isShelf_14 rfl (by omega) ?_
      exact ⟨by first | rfl | (rw [if_pos (by omega)]) | (rw [if_neg (by omega)]), rfl⟩
    · refine r_iconst (pc2 := 10) dX12_isShelf_9 rfl ?_
      refine r_goto (tgt := 14) dX12_isShelf_10 (by decide) ?_
      refine r_iretz dX12_isShelf_14 rfl (by omega) ?_
      exact ⟨by first | rfl | (rw [if_pos (by omega)]) | (rw [if_neg (by omega)]), rfl⟩
set_option maxHeartbeats 4000000 in
theorem c_X0_isMoving {d : Nat} {M : pM} {k : Int} (hk : inR k) : Ct (d + 1) 0 0 yX0_isMoving [.int (iI k)] M (fun v M2 => v = some (.int (iI (if k = 4 ∨ k = 7 ∨ k = 9 then 1 else 0))) ∧ M2 = M) := by
  refine ct_in (d := d) kX0_isMoving rfl (by decide) (Nat.le_of_ble_eq_true rfl) (by decide) ?_
  show Go (Ct d) _ yX0_isMoving cX0_isMoving (some .boolean) 0 0 0 [some (.int (iI k))] [] M
  obtain ⟨k1, k2⟩ := hk
  refine r_iload0 (pc2 := 1) dX0_isMoving_0 rfl ?_
  refine r_iconst (pc2 := 2) dX0_isMoving_1 rfl ?_
  refine r_iceq (tgt := 17) (pc2 := 5) dX0_isMoving_2 rfl (by decide) ⟨by omega, by omega⟩ ⟨by omega, by omega⟩ (fun b_2 => ?_) (fun b_2 => ?_)
  · refine r_iconst (pc2 := 18) dX0_isMoving_17 rfl ?_
    refine r_goto (tgt := 22) dX0_isMoving_18 (by decide) ?_
    refine r_iretz dX0_isMoving_22 rfl (by omega) ?_
    exact ⟨by first | rfl | (rw [if_pos (by omega)]) | (rw [if_neg (by omega)]), rfl⟩
  · refine r_iload0 (pc2 := 6) dX0_isMoving_5 rfl ?_
    refine r_bipush (pc2 := 8) dX0_isMoving_6 rfl (by decide) (by decide) ?_
    refine r_iceq (tgt := 17) (pc2 := 11) dX0_isMoving_8 rfl (by decide) ⟨by omega, by omega⟩ ⟨by omega, by omega⟩ (fun b_8 => ?_) (fun b_8 => ?_)
    · refine r_iconst (pc2 := 18) dX0_isMoving_17 rfl ?_
      refine r_goto (tgt := 22) dX0_isMoving_18 (by decide) ?_
      refine r_iretz dX0_isMoving_22 rfl (by omega) ?_
      exact ⟨by first | rfl | (rw [if_pos (by omega)]) | (rw [if_neg (by omega)]), rfl⟩
    · refine r_iload0 (pc2 := 12) dX0_isMoving_11 rfl ?_
      refine r_bipush (pc2 := 14) dX0_isMoving_12 rfl (by decide) (by decide) ?_
      refine r_icne (tgt := 21) (pc2 := 17) dX0_isMoving_14 rfl (by decide) ⟨by omega, by omega⟩ ⟨by omega, by omega⟩ (fun b_14 => ?_) (fun b_14 => ?_)
      · refine r_iconst (pc2 := 22) dX0_isMoving_21 rfl ?_
        refine r_iretz dX0_isMoving_22 rfl (by omega) ?_
        exact ⟨by first | rfl | (rw [if_pos (by omega)]) | (rw [if_neg (by omega)]), rfl⟩
      · refine r_iconst (pc2 := 18) dX0_isMoving_17 rfl ?_
        refine r_goto (tgt := 22) dX0_isMoving_18 (by decide) ?_
        refine r_iretz dX0_isMoving_22 rfl (by omega) ?_
        exact ⟨by first | rfl | (rw [if_pos (by omega)]) | (rw [if_neg (by omega)]), rfl⟩
set_option maxHeartbeats 4000000 in
theorem c_X12_isMoving {d : Nat} {M : pM} {k : Int} (hk : inR k) : Ct (d + 1) 0 0 yX12_isMoving [.int (iI k)] M (fun v M2 => v = some (.int (iI (if k = 4 ∨ k = 7 ∨ k = 9 then 1 else 0))) ∧ M2 = M) := by
  refine ct_in (d := d) kX12_isMoving rfl (by decide) (Nat.le_of_ble_eq_true rfl) (by decide) ?_
  show Go (Ct d) _ yX12_isMoving cX12_isMoving (some .boolean) 0 0 0 [some (.int (iI k))] [] M
  obtain ⟨k1, k2⟩ := hk
  refine r_iload0 (pc2 := 1) dX12_isMoving_0 rfl ?_
  refine r_iconst (pc2 := 2) dX12_isMoving_1 rfl ?_
  refine r_iceq (tgt := 17) (pc2 := 5) dX12_isMoving_2 rfl (by decide) ⟨by omega, by omega⟩ ⟨by omega, by omega⟩ (fun b_2 => ?_) (fun b_2 => ?_)
  · refine r_iconst (pc2 := 18) dX12_isMoving_17 rfl ?_
    refine r_goto (tgt := 22) dX12_isMoving_18 (by decide) ?_
    refine r_iretz dX12_isMoving_22 rfl (by omega) ?_
    exact ⟨by first | rfl | (rw [if_pos (by omega)]) | (rw [if_neg (by omega)]), rfl⟩
  · refine r_iload0 (pc2 := 6) dX12_isMoving_5 rfl ?_
    refine r_bipush (pc2 := 8) dX12_isMoving_6 rfl (by decide) (by decide) ?_
    refine r_iceq (tgt := 17) (pc2 := 11) dX12_isMoving_8 rfl (by decide) ⟨by omega, by omega⟩ ⟨by omega, by omega⟩ (fun b_8 => ?_) (fun b_8 => ?_)
    · refine r_iconst (pc2 := 18) dX12_isMoving_17 rfl ?_
      refine r_goto (tgt := 22) dX12_isMoving_18 (by decide) ?_
      refine r_iretz dX12_isMoving_22 rfl (by omega) ?_
      exact ⟨by first | rfl | (rw [if_pos (by omega)]) | (rw [if_neg (by omega)]), rfl⟩
    · refine r_iload0 (pc2 := 12) dX12_isMoving_11 rfl ?_
      refine r_bipush (pc2 := 14) dX12_isMoving_12 rfl (by decide) (by decide) ?_
      refine r_icne (tgt := 21) (pc2 := 17) dX12_isMoving_14 rfl (by decide) ⟨by omega, by omega⟩ ⟨by omega, by omega⟩ (fun b_14 => ?_) (fun b_14 => ?_)
      · refine r_iconst (pc2 := 22) dX12_isMoving_21 rfl ?_
        refine r_iretz dX12_isMoving_22 rfl (by omega) ?_
        exact ⟨by first | rfl | (rw [if_pos (by omega)]) | (rw [if_neg (by omega)]), rfl⟩
      · refine r_iconst (pc2 := 18) dX12_isMoving_17 rfl ?_
        refine r_goto (tgt := 22) dX12_isMoving_18 (by decide) ?_
        refine r_iretz dX12_isMoving_22 rfl (by omega) ?_
        exact ⟨by first | rfl | (rw [if_pos (by omega)]) | (rw [if_neg (by omega)]), rfl⟩
set_option maxHeartbeats 4000000 in
theorem c_X12_isLetter {d : Nat} {M : pM} {c : Int} (hc : inR c) : Ct (d + 1) 0 0 yX12_isLetter [.int (iI c)] M (fun v M2 => v = some (.int (iI (if 97 ≤ c ∧ c ≤ 122 then 1 else 0))) ∧ M2 = M) := by
  refine ct_in (d := d) kX12_isLetter rfl (by decide) (Nat.le_of_ble_eq_true rfl) (by decide) ?_
  show Go (Ct d) _ yX12_isLetter cX12_isLetter (some .boolean) 0 0 0 [some (.int (iI c))] [] M
  obtain ⟨c1, c2⟩ := hc
  refine r_iload0 (pc2 := 1) dX12_isLetter_0 rfl ?_
  refine r_bipush (pc2 := 3) dX12_isLetter_1 rfl (by decide) (by decide) ?_
  refine r_iclt (tgt := 16) (pc2 := 6) dX12_isLetter_3 rfl (by decide) ⟨by omega, by omega⟩ ⟨by omega, by omega⟩ (fun b_3 => ?_) (fun b_3 => ?_)
  · refine r_iconst (pc2 := 17) dX12_isLetter_16 rfl ?_
    refine r_iretz dX12_isLetter_17 rfl (by omega) ?_
    exact ⟨by first | rfl | (rw [if_pos (by omega)]) | (rw [if_neg (by omega)]), rfl⟩
  · refine r_iload0 (pc2 := 7) dX12_isLetter_6 rfl ?_
    refine r_bipush (pc2 := 9) dX12_isLetter_7 rfl (by decide) (by decide) ?_
    refine r_icgt (tgt := 16) (pc2 := 12) dX12_isLetter_9 rfl (by decide) ⟨by omega, by omega⟩ ⟨by omega, by omega⟩ (fun b_9 => ?_) (fun b_9 => ?_)
    · refine r_iconst (pc2 := 17) dX12_isLetter_16 rfl ?_
      refine r_iretz dX12_isLetter_17 rfl (by omega) ?_
      exact ⟨by first | rfl | (rw [if_pos (by omega)]) | (rw [if_neg (by omega)]), rfl⟩
    · refine r_iconst (pc2 := 13) dX12_isLetter_12 rfl ?_
      refine r_goto (tgt := 17) dX12_isLetter_13 (by decide) ?_
      refine r_iretz dX12_isLetter_17 rfl (by omega) ?_
      exact ⟨by first | rfl | (rw [if_pos (by omega)]) | (rw [if_neg (by omega)]), rfl⟩
set_option maxHeartbeats 4000000 in
theorem c_X12_isDigit {d : Nat} {M : pM} {c : Int} (hc : inR c) : Ct (d + 1) 0 0 yX12_isDigit [.int (iI c)] M (fun v M2 => v = some (.int (iI (if 48 ≤ c ∧ c ≤ 57 then 1 else 0))) ∧ M2 = M) := by
  refine ct_in (d := d) kX12_isDigit rfl (by decide) (Nat.le_of_ble_eq_true rfl) (by decide) ?_
  show Go (Ct d) _ yX12_isDigit cX12_isDigit (some .boolean) 0 0 0 [some (.int (iI c))] [] M
  obtain ⟨c1, c2⟩ := hc
  refine r_iload0 (pc2 := 1) dX12_isDigit_0 rfl ?_
  refine r_bipush (pc2 := 3) dX12_isDigit_1 rfl (by decide) (by decide) ?_
  refine r_iclt (tgt := 16) (pc2 := 6) dX12_isDigit_3 rfl (by decide) ⟨by omega, by omega⟩ ⟨by omega, by omega⟩ (fun b_3 => ?_) (fun b_3 => ?_)
  · refine r_iconst (pc2 := 17) dX12_isDigit_16 rfl ?_
    refine r_iretz dX12_isDigit_17 rfl (by omega) ?_
    exact ⟨by first | rfl | (rw [if_pos (by omega)]) | (rw [if_neg (by omega)]), rfl⟩
  · refine r_iload0 (pc2 := 7) dX12_isDigit_6 rfl ?_
    refine r_bipush (pc2 := 9) dX12_isDigit_7 rfl (by decide) (by decide) ?_
    refine r_icgt (tgt := 16) (pc2 := 12) dX12_isDigit_9 rfl (by decide) ⟨by omega, by omega⟩ ⟨by omega, by omega⟩ (fun b_9 => ?_) (fun b_9 => ?_)
    · refine r_iconst (pc2 := 17) dX12_isDigit_16 rfl ?_
      refine r_iretz dX12_isDigit_17 rfl (by omega) ?_
      exact ⟨by first | rfl | (rw [if_pos (by omega)]) | (rw [if_neg (by omega)]), rfl⟩
    · refine r_iconst (pc2 := 13) dX12_isDigit_12 rfl ?_
      refine r_goto (tgt := 17) dX12_isDigit_13 (by decide) ?_
      refine r_iretz dX12_isDigit_17 rfl (by omega) ?_
      exact ⟨by first | rfl | (rw [if_pos (by omega)]) | (rw [if_neg (by omega)]), rfl⟩
set_option maxHeartbeats 4000000 in
theorem c_X12_isSignOf {d : Nat} {M : pM} {c : Int} (hc : inR c) : Ct (d + 1) 0 0 yX12_isSignOf [.int (iI c)] M (fun v M2 => v = some (.int (iI (if c = 40 ∨ c = 41 ∨ c = 59 ∨ c = 45 then 1 else 0))) ∧ M2 = M) := by
  refine ct_in (d := d) kX12_isSignOf rfl (by decide) (Nat.le_of_ble_eq_true rfl) (by decide) ?_
  show Go (Ct d) _ yX12_isSignOf cX12_isSignOf (some .boolean) 0 0 0 [some (.int (iI c))] [] M
  obtain ⟨c1, c2⟩ := hc
  refine r_iload0 (pc2 := 1) dX12_isSignOf_0 rfl ?_
  refine r_bipush (pc2 := 3) dX12_isSignOf_1 rfl (by decide) (by decide) ?_
  refine r_iceq (tgt := 24) (pc2 := 6) dX12_isSignOf_3 rfl (by decide) ⟨by omega, by omega⟩ ⟨by omega, by omega⟩ (fun b_3 => ?_) (fun b_3 => ?_)
  · refine r_iconst (pc2 := 25) dX12_isSignOf_24 rfl ?_
    refine r_goto (tgt := 29) dX12_isSignOf_25 (by decide) ?_
    refine r_iretz dX12_isSignOf_29 rfl (by omega) ?_
    exact ⟨by first | rfl | (rw [if_pos (by omega)]) | (rw [if_neg (by omega)]), rfl⟩
  · refine r_iload0 (pc2 := 7) dX12_isSignOf_6 rfl ?_
    refine r_bipush (pc2 := 9) dX12_isSignOf_7 rfl (by decide) (by decide) ?_
    refine r_iceq (tgt := 24) (pc2 := 12) dX12_isSignOf_9 rfl (by decide) ⟨by omega, by omega⟩ ⟨by omega, by omega⟩ (fun b_9 => ?_) (fun b_9 => ?_)
    · refine r_iconst (pc2 := 25) dX12_isSignOf_24 rfl ?_
      refine r_goto (tgt := 29) dX12_isSignOf_25 (by decide) ?_
      refine r_iretz dX12_isSignOf_29 rfl (by omega) ?_
      exact ⟨by first | rfl | (rw [if_pos (by omega)]) | (rw [if_neg (by omega)]), rfl⟩
    · refine r_iload0 (pc2 := 13) dX12_isSignOf_12 rfl ?_
      refine r_bipush (pc2 := 15) dX12_isSignOf_13 rfl (by decide) (by decide) ?_
      refine r_iceq (tgt := 24) (pc2 := 18) dX12_isSignOf_15 rfl (by decide) ⟨by omega, by omega⟩ ⟨by omega, by omega⟩ (fun b_15 => ?_) (fun b_15 => ?_)
      · refine r_iconst (pc2 := 25) dX12_isSignOf_24 rfl ?_
        refine r_goto (tgt := 29) dX12_isSignOf_25 (by decide) ?_
        refine r_iretz dX12_isSignOf_29 rfl (by omega) ?_
        exact ⟨by first | rfl | (rw [if_pos (by omega)]) | (rw [if_neg (by omega)]), rfl⟩
      · refine r_iload0 (pc2 := 19) dX12_isSignOf_18 rfl ?_
        refine r_bipush (pc2 := 21) dX12_isSignOf_19 rfl (by decide) (by decide) ?_
        refine r_icne (tgt := 28) (pc2 := 24) dX12_isSignOf_21 rfl (by decide) ⟨by omega, by omega⟩ ⟨by omega, by omega⟩ (fun b_21 => ?_) (fun b_21 => ?_)
        · refine r_iconst (pc2 := 29) dX12_isSignOf_28 rfl ?_
          refine r_iretz dX12_isSignOf_29 rfl (by omega) ?_
          exact ⟨by first | rfl | (rw [if_pos (by omega)]) | (rw [if_neg (by omega)]), rfl⟩
        · refine r_iconst (pc2 := 25) dX12_isSignOf_24 rfl ?_
          refine r_goto (tgt := 29) dX12_isSignOf_25 (by decide) ?_
          refine r_iretz dX12_isSignOf_29 rfl (by omega) ?_
          exact ⟨by first | rfl | (rw [if_pos (by omega)]) | (rw [if_neg (by omega)]), rfl⟩
set_option maxHeartbeats 4000000 in
theorem c_X8_sortOf {d : Nat} {M : pM} {c : Int} (hc : inR c) : Ct (d + 1) 0 0 yX8_sortOf [.int (iI c)] M (fun v M2 => v = some (.int (iI (if 97 ≤ c ∧ c ≤ 122 then 18 else if 48 ≤ c ∧ c ≤ 57 then 19 else if c = 32 ∨ c = 10 then 21 else if c = 40 ∨ c = 41 ∨ c = 45 ∨ c = 59 then c else 20))) ∧ M2 = M) := by
  refine ct_in (d := d) kX8_sortOf rfl (by decide) (Nat.le_of_ble_eq_true rfl) (by decide) ?_
  show Go (Ct d) _ yX8_sortOf cX8_sortOf (some .int) 0 0 0 [some (.int (iI c))] [] M
  obtain ⟨c1, c2⟩ := hc
  refine r_iload0 (pc2 := 1) dX8_sortOf_0 rfl ?_
  refine r_bipush (pc2 := 3) dX8_sortOf_1 rfl (by decide) (by decide) ?_
  refine r_iclt (tgt := 15) (pc2 := 6) dX8_sortOf_3 rfl (by decide) ⟨by omega, by omega⟩ ⟨by omega, by omega⟩ (fun b_3 => ?_) (fun b_3 => ?_)
  · refine r_iload0 (pc2 := 16) dX8_sortOf_15 rfl ?_
    refine r_bipush (pc2 := 18) dX8_sortOf_16 rfl (by decide) (by decide) ?_
    refine r_iclt (tgt := 30) (pc2 := 21) dX8_sortOf_18 rfl (by decide) ⟨by omega, by omega⟩ ⟨by omega, by omega⟩ (fun b_18 => ?_) (fun b_18 => ?_)
    · refine r_iload0 (pc2 := 31) dX8_sortOf_30 rfl ?_
      refine r_bipush (pc2 := 33) dX8_sortOf_31 rfl (by decide) (by decide) ?_
      refine r_iceq (tgt := 42) (pc2 := 36) dX8_sortOf_33 rfl (by decide) ⟨by omega, by omega⟩ ⟨by omega, by omega⟩ (fun b_33 => ?_) (fun b_33 => ?_)
      · refine r_bipush (pc2 := 44) dX8_sortOf_42 rfl (by decide) (by decide) ?_
        refine r_ireti dX8_sortOf_44 rfl ?_
        refine ⟨?_, rfl⟩
        congr 3
        repeat split
        all_goals omega
      · refine r_iload0 (pc2 := 37) dX8_sortOf_36 rfl ?_
        refine r_bipush (pc2 := 39) dX8_sortOf_37 rfl (by decide) (by decide) ?_
        refine r_icne (tgt := 45) (pc2 := 42) dX8_sortOf_39 rfl (by decide) ⟨by omega, by omega⟩ ⟨by omega, by omega⟩ (fun b_39 => ?_) (fun b_39 => ?_)
        · refine r_iload0 (pc2 := 46) dX8_sortOf_45 rfl ?_
          refine r_bipush (pc2 := 48) dX8_sortOf_46 rfl (by decide) (by decide) ?_
          refine r_iceq (tgt := 69) (pc2 := 51) dX8_sortOf_48 rfl (by decide) ⟨by omega, by omega⟩ ⟨by omega, by omega⟩ (fun b_48 => ?_) (fun b_48 => ?_)
          · refine r_iload0 (pc2 := 70) dX8_sortOf_69 rfl ?_
            refine r_goto (tgt := 75) dX8_sortOf_70 (by decide) ?_
            refine r_ireti dX8_sortOf_75 rfl ?_
            refine ⟨?_, rfl⟩
            congr 3
            repeat split
            all_goals omega
          · refine r_iload0 (pc2 := 52) dX8_sortOf_51 rfl ?_
            refine r_bipush (pc2 := 54) dX8_sortOf_52 rfl (by decide) (by decide) ?_
            refine r_iceq (tgt := 69) (pc2 := 57) dX8_sortOf_54 rfl (by decide) ⟨by omega, by omega⟩ ⟨by omega, by omega⟩ (fun b_54 => ?_) (fun b_54 => ?_)
            · refine r_iload0 (pc2 := 70) dX8_sortOf_69 rfl ?_
              refine r_goto (tgt := 75) dX8_sortOf_70 (by decide) ?_
              refine r_ireti dX8_sortOf_75 rfl ?_
              refine ⟨?_, rfl⟩
              congr 3
              repeat split
              all_goals omega
            · refine r_iload0 (pc2 := 58) dX8_sortOf_57 rfl ?_
              refine r_bipush (pc2 := 60) dX8_sortOf_58 rfl (by decide) (by decide) ?_
              refine r_iceq (tgt := 69) (pc2 := 63) dX8_sortOf_60 rfl (by decide) ⟨by omega, by omega⟩ ⟨by omega, by omega⟩ (fun b_60 => ?_) (fun b_60 => ?_)
              · refine r_iload0 (pc2 := 70) dX8_sortOf_69 rfl ?_
                refine r_goto (tgt := 75) dX8_sortOf_70 (by decide) ?_
                refine r_ireti dX8_sortOf_75 rfl ?_
                refine ⟨?_, rfl⟩
                congr 3
                repeat split
                all_goals omega
              · refine r_iload0 (pc2 := 64) dX8_sortOf_63 rfl ?_
                refine r_bipush (pc2 := 66) dX8_sortOf_64 rfl (by decide) (by decide) ?_
                refine r_icne (tgt := 73) (pc2 := 69) dX8_sortOf_66 rfl (by decide) ⟨by omega, by omega⟩ ⟨by omega, by omega⟩ (fun b_66 => ?_) (fun b_66 => ?_)
                · refine r_bipush (pc2 := 75) dX8_sortOf_73 rfl (by decide) (by decide) ?_
                  refine r_ireti dX8_sortOf_75 rfl ?_
                  refine ⟨?_, rfl⟩
                  congr 3
                  repeat split
                  all_goals omega
                · refine r_iload0 (pc2 := 70) dX8_sortOf_69 rfl ?_
                  refine r_goto (tgt := 75) dX8_sortOf_70 (by decide) ?_
                  refine r_ireti dX8_sortOf_75 rfl ?_
                  refine ⟨?_, rfl⟩
                  congr 3
                  repeat split
                  all_goals omega
        · refine r_bipush (pc2 := 44) dX8_sortOf_42 rfl (by decide) (by decide) ?_
          refine r_ireti dX8_sortOf_44 rfl ?_
          refine ⟨?_, rfl⟩
          congr 3
          repeat split
          all_goals omega
    · refine r_iload0 (pc2 := 22) dX8_sortOf_21 rfl ?_
      refine r_bipush (pc2 := 24) dX8_sortOf_22 rfl (by decide) (by decide) ?_
      refine r_icgt (tgt := 30) (pc2 := 27) dX8_sortOf_24 rfl (by decide) ⟨by omega, by omega⟩ ⟨by omega, by omega⟩ (fun b_24 => ?_) (fun b_24 => ?_)
      · refine r_iload0 (pc2 := 31) dX8_sortOf_30 rfl ?_
        refine r_bipush (pc2 := 33) dX8_sortOf_31 rfl (by decide) (by decide) ?_
        refine r_iceq (tgt := 42) (pc2 := 36) dX8_sortOf_33 rfl (by decide) ⟨by omega, by omega⟩ ⟨by omega, by omega⟩ (fun b_33 => ?_) (fun b_33 => ?_)
        · refine r_bipush (pc2 := 44) dX8_sortOf_42 rfl (by decide) (by decide) ?_
          refine r_ireti dX8_sortOf_44 rfl ?_
          refine ⟨?_, rfl⟩
          congr 3
          repeat split
          all_goals omega
        · refine r_iload0 (pc2 := 37) dX8_sortOf_36 rfl ?_
          refine r_bipush (pc2 := 39) dX8_sortOf_37 rfl (by decide) (by decide) ?_
          refine r_icne (tgt := 45) (pc2 := 42) dX8_sortOf_39 rfl (by decide) ⟨by omega, by omega⟩ ⟨by omega, by omega⟩ (fun b_39 => ?_) (fun b_39 => ?_)
          · refine r_iload0 (pc2 := 46) dX8_sortOf_45 rfl ?_
            refine r_bipush (pc2 := 48) dX8_sortOf_46 rfl (by decide) (by decide) ?_
            refine r_iceq (tgt := 69) (pc2 := 51) dX8_sortOf_48 rfl (by decide) ⟨by omega, by omega⟩ ⟨by omega, by omega⟩ (fun b_48 => ?_) (fun b_48 => ?_)
            · refine r_iload0 (pc2 := 70) dX8_sortOf_69 rfl ?_
              refine r_goto (tgt := 75) dX8_sortOf_70 (by decide) ?_
              refine r_ireti dX8_sortOf_75 rfl ?_
              refine ⟨?_, rfl⟩
              congr 3
              repeat split
              all_goals omega
            · refine r_iload0 (pc2 := 52) dX8_sortOf_51 rfl ?_
              refine r_bipush (pc2 := 54) dX8_sortOf_52 rfl (by decide) (by decide) ?_
              refine r_iceq (tgt := 69) (pc2 := 57) dX8_sortOf_54 rfl (by decide) ⟨by omega, by omega⟩ ⟨by omega, by omega⟩ (fun b_54 => ?_) (fun b_54 => ?_)
              · refine r_iload0 (pc2 := 70) dX8_sortOf_69 rfl ?_
                refine r_goto (tgt := 75) dX8_sortOf_70 (by decide) ?_
                refine r_ireti dX8_sortOf_75 rfl ?_
                refine ⟨?_, rfl⟩
                congr 3
                repeat split
                all_goals omega
              · refine r_iload0 (pc2 := 58) dX8_sortOf_57 rfl ?_
                refine r_bipush (pc2 := 60) dX8_sortOf_58 rfl (by decide) (by decide) ?_
                refine r_iceq (tgt := 69) (pc2 := 63) dX8_sortOf_60 rfl (by decide) ⟨by omega, by omega⟩ ⟨by omega, by omega⟩ (fun b_60 => ?_) (fun b_60 => ?_)
                · refine r_iload0 (pc2 := 70) dX8_sortOf_69 rfl ?_
                  refine r_goto (tgt := 75) dX8_sortOf_70 (by decide) ?_
                  refine r_ireti dX8_sortOf_75 rfl ?_
                  refine ⟨?_, rfl⟩
                  congr 3
                  repeat split
                  all_goals omega
                · refine r_iload0 (pc2 := 64) dX8_sortOf_63 rfl ?_
                  refine r_bipush (pc2 := 66) dX8_sortOf_64 rfl (by decide) (by decide) ?_
                  refine r_icne (tgt := 73) (pc2 := 69) dX8_sortOf_66 rfl (by decide) ⟨by omega, by omega⟩ ⟨by omega, by omega⟩ (fun b_66 => ?_) (fun b_66 => ?_)
                  · refine r_bipush (pc2 := 75) dX8_sortOf_73 rfl (by decide) (by decide) ?_
                    refine r_ireti dX8_sortOf_75 rfl ?_
                    refine ⟨?_, rfl⟩
                    congr 3
                    repeat split
                    all_goals omega
                  · refine r_iload0 (pc2 := 70) dX8_sortOf_69 rfl ?_
                    refine r_goto (tgt := 75) dX8_sortOf_70 (by decide) ?_
                    refine r_ireti dX8_sortOf_75 rfl ?_
                    refine ⟨?_, rfl⟩
                    congr 3
                    repeat split
                    all_goals omega
          · refine r_bipush (pc2 := 44) dX8_sortOf_42 rfl (by decide) (by decide) ?_
            refine r_ireti dX8_sortOf_44 rfl ?_
            refine ⟨?_, rfl⟩
            congr 3
            repeat split
            all_goals omega
      · refine r_bipush (pc2 := 29) dX8_sortOf_27 rfl (by decide) (by decide) ?_
        refine r_ireti dX8_sortOf_29 rfl ?_
        refine ⟨?_, rfl⟩
        congr 3
        repeat split
        all_goals omega
  · refine r_iload0 (pc2 := 7) dX8_sortOf_6 rfl ?_
    refine r_bipush (pc2 := 9) dX8_sortOf_7 rfl (by decide) (by decide) ?_
    refine r_icgt (tgt := 15) (pc2 := 12) dX8_sortOf_9 rfl (by decide) ⟨by omega, by omega⟩ ⟨by omega, by omega⟩ (fun b_9 => ?_) (fun b_9 => ?_)
    · refine r_iload0 (pc2 := 16) dX8_sortOf_15 rfl ?_
      refine r_bipush (pc2 := 18) dX8_sortOf_16 rfl (by decide) (by decide) ?_
      refine r_iclt (tgt := 30) (pc2 := 21) dX8_sortOf_18 rfl (by decide) ⟨by omega, by omega⟩ ⟨by omega, by omega⟩ (fun b_18 => ?_) (fun b_18 => ?_)
      · refine r_iload0 (pc2 := 31) dX8_sortOf_30 rfl ?_
        refine r_bipush (pc2 := 33) dX8_sortOf_31 rfl (by decide) (by decide) ?_
        refine r_iceq (tgt := 42) (pc2 := 36) dX8_sortOf_33 rfl (by decide) ⟨by omega, by omega⟩ ⟨by omega, by omega⟩ (fun b_33 => ?_) (fun b_33 => ?_)
        · refine r_bipush (pc2 := 44) dX8_sortOf_42 rfl (by decide) (by decide) ?_
          refine r_ireti dX8_sortOf_44 rfl ?_
          refine ⟨?_, rfl⟩
          congr 3
          repeat split
          all_goals omega
        · refine r_iload0 (pc2 := 37) dX8_sortOf_36 rfl ?_
          refine r_bipush (pc2 := 39) dX8_sortOf_37 rfl (by decide) (by decide) ?_
          refine r_icne (tgt := 45) (pc2 := 42) dX8_sortOf_39 rfl (by decide) ⟨by omega, by omega⟩ ⟨by omega, by omega⟩ (fun b_39 => ?_) (fun b_39 => ?_)
          · refine r_iload0 (pc2 := 46) dX8_sortOf_45 rfl ?_
            refine r_bipush (pc2 := 48) dX8_sortOf_46 rfl (by decide) (by decide) ?_
            refine r_iceq (tgt := 69) (pc2 := 51) dX8_sortOf_48 rfl (by decide) ⟨by omega, by omega⟩ ⟨by omega, by omega⟩ (fun b_48 => ?_) (fun b_48 => ?_)
            · refine r_iload0 (pc2 := 70) dX8_sortOf_69 rfl ?_
              refine r_goto (tgt := 75) dX8_sortOf_70 (by decide) ?_
              refine r_ireti dX8_sortOf_75 rfl ?_
              refine ⟨?_, rfl⟩
              congr 3
              repeat split
              all_goals omega
            · refine r_iload0 (pc2 := 52) dX8_sortOf_51 rfl ?_
              refine r_bipush (pc2 := 54) dX8_sortOf_52 rfl (by decide) (by decide) ?_
              refine r_iceq (tgt := 69) (pc2 := 57) dX8_sortOf_54 rfl (by decide) ⟨by omega, by omega⟩ ⟨by omega, by omega⟩ (fun b_54 => ?_) (fun b_54 => ?_)
              · refine r_iload0 (pc2 := 70) dX8_sortOf_69 rfl ?_
                refine r_goto (tgt := 75) dX8_sortOf_70 (by decide) ?_
                refine r_ireti dX8_sortOf_75 rfl ?_
                refine ⟨?_, rfl⟩
                congr 3
                repeat split
                all_goals omega
              · refine r_iload0 (pc2 := 58) dX8_sortOf_57 rfl ?_
                refine r_bipush (pc2 := 60) dX8_sortOf_58 rfl (by decide) (by decide) ?_
                refine r_iceq (tgt := 69) (pc2 := 63) dX8_sortOf_60 rfl (by decide) ⟨by omega, by omega⟩ ⟨by omega, by omega⟩ (fun b_60 => ?_) (fun b_60 => ?_)
                · refine r_iload0 (pc2 := 70) dX8_sortOf_69 rfl ?_
                  refine r_goto (tgt := 75) dX8_sortOf_70 (by decide) ?_
                  refine r_ireti dX8_sortOf_75 rfl ?_
                  refine ⟨?_, rfl⟩
                  congr 3
                  repeat split
                  all_goals omega
                · refine r_iload0 (pc2 := 64) dX8_sortOf_63 rfl ?_
                  refine r_bipush (pc2 := 66) dX8_sortOf_64 rfl (by decide) (by decide) ?_
                  refine r_icne (tgt := 73) (pc2 := 69) dX8_sortOf_66 rfl (by decide) ⟨by omega, by omega⟩ ⟨by omega, by omega⟩ (fun b_66 => ?_) (fun b_66 => ?_)
                  · refine r_bipush (pc2 := 75) dX8_sortOf_73 rfl (by decide) (by decide) ?_
                    refine r_ireti dX8_sortOf_75 rfl ?_
                    refine ⟨?_, rfl⟩
                    congr 3
                    repeat split
                    all_goals omega
                  · refine r_iload0 (pc2 := 70) dX8_sortOf_69 rfl ?_
                    refine r_goto (tgt := 75) dX8_sortOf_70 (by decide) ?_
                    refine r_ireti dX8_sortOf_75 rfl ?_
                    refine ⟨?_, rfl⟩
                    congr 3
                    repeat split
                    all_goals omega
          · refine r_bipush (pc2 := 44) dX8_sortOf_42 rfl (by decide) (by decide) ?_
            refine r_ireti dX8_sortOf_44 rfl ?_
            refine ⟨?_, rfl⟩
            congr 3
            repeat split
            all_goals omega
      · refine r_iload0 (pc2 := 22) dX8_sortOf_21 rfl ?_
        refine r_bipush (pc2 := 24) dX8_sortOf_22 rfl (by decide) (by decide) ?_
        refine r_icgt (tgt := 30) (pc2 := 27) dX8_sortOf_24 rfl (by decide) ⟨by omega, by omega⟩ ⟨by omega, by omega⟩ (fun b_24 => ?_) (fun b_24 => ?_)
        · refine r_iload0 (pc2 := 31) dX8_sortOf_30 rfl ?_
          refine r_bipush (pc2 := 33) dX8_sortOf_31 rfl (by decide) (by decide) ?_
          refine r_iceq (tgt := 42) (pc2 := 36) dX8_sortOf_33 rfl (by decide) ⟨by omega, by omega⟩ ⟨by omega, by omega⟩ (fun b_33 => ?_) (fun b_33 => ?_)
          · refine r_bipush (pc2 := 44) dX8_sortOf_42 rfl (by decide) (by decide) ?_
            refine r_ireti dX8_sortOf_44 rfl ?_
            refine ⟨?_, rfl⟩
            congr 3
            repeat split
            all_goals omega
          · refine r_iload0 (pc2 := 37) dX8_sortOf_36 rfl ?_
            refine r_bipush (pc2 := 39) dX8_sortOf_37 rfl (by decide) (by decide) ?_
            refine r_icne (tgt := 45) (pc2 := 42) dX8_sortOf_39 rfl (by decide) ⟨by omega, by omega⟩ ⟨by omega, by omega⟩ (fun b_39 => ?_) (fun b_39 => ?_)
            · refine r_iload0 (pc2 := 46) dX8_sortOf_45 rfl ?_
              refine r_bipush (pc2 := 48) dX8_sortOf_46 rfl (by decide) (by decide) ?_
              refine r_iceq (tgt := 69) (pc2 := 51) dX8_sortOf_48 rfl (by decide) ⟨by omega, by omega⟩ ⟨by omega, by omega⟩ (fun b_48 => ?_) (fun b_48 => ?_)
              · refine r_iload0 (pc2 := 70) dX8_sortOf_69 rfl ?_
                refine r_goto (tgt := 75) dX8_sortOf_70 (by decide) ?_
                refine r_ireti dX8_sortOf_75 rfl ?_
                refine ⟨?_, rfl⟩
                congr 3
                repeat split
                all_goals omega
              · refine r_iload0 (pc2 := 52) dX8_sortOf_51 rfl ?_
                refine r_bipush (pc2 := 54) dX8_sortOf_52 rfl (by decide) (by decide) ?_
                refine r_iceq (tgt := 69) (pc2 := 57) dX8_sortOf_54 rfl (by decide) ⟨by omega, by omega⟩ ⟨by omega, by omega⟩ (fun b_54 => ?_) (fun b_54 => ?_)
                · refine r_iload0 (pc2 := 70) dX8_sortOf_69 rfl ?_
                  refine r_goto (tgt := 75) dX8_sortOf_70 (by decide) ?_
                  refine r_ireti dX8_sortOf_75 rfl ?_
                  refine ⟨?_, rfl⟩
                  congr 3
                  repeat split
                  all_goals omega
                · refine r_iload0 (pc2 := 58) dX8_sortOf_57 rfl ?_
                  refine r_bipush (pc2 := 60) dX8_sortOf_58 rfl (by decide) (by decide) ?_
                  refine r_iceq (tgt := 69) (pc2 := 63) dX8_sortOf_60 rfl (by decide) ⟨by omega, by omega⟩ ⟨by omega, by omega⟩ (fun b_60 => ?_) (fun b_60 => ?_)
                  · refine r_iload0 (pc2 := 70) dX8_sortOf_69 rfl ?_
                    refine r_goto (tgt := 75) dX8_sortOf_70 (by decide) ?_
                    refine r_ireti dX8_sortOf_75 rfl ?_
                    refine ⟨?_, rfl⟩
                    congr 3
                    repeat split
                    all_goals omega
                  · refine r_iload0 (pc2 := 64) dX8_sortOf_63 rfl ?_
                    refine r_bipush (pc2 := 66) dX8_sortOf_64 rfl (by decide) (by decide) ?_
                    refine r_icne (tgt := 73) (pc2 := 69) dX8_sortOf_66 rfl (by decide) ⟨by omega, by omega⟩ ⟨by omega, by omega⟩ (fun b_66 => ?_) (fun b_66 => ?_)
                    · refine r_bipush (pc2 := 75) dX8_sortOf_73 rfl (by decide) (by decide) ?_
                      refine r_ireti dX8_sortOf_75 rfl ?_
                      refine ⟨?_, rfl⟩
                      congr 3
                      repeat split
                      all_goals omega
                    · refine r_iload0 (pc2 := 70) dX8_sortOf_69 rfl ?_
                      refine r_goto (tgt := 75) dX8_sortOf_70 (by decide) ?_
                      refine r_ireti dX8_sortOf_75 rfl ?_
                      refine ⟨?_, rfl⟩
                      congr 3
                      repeat split
                      all_goals omega
            · refine r_bipush (pc2 := 44) dX8_sortOf_42 rfl (by decide) (by decide) ?_
              refine r_ireti dX8_sortOf_44 rfl ?_
              refine ⟨?_, rfl⟩
              congr 3
              repeat split
              all_goals omega
        · refine r_bipush (pc2 := 29) dX8_sortOf_27 rfl (by decide) (by decide) ?_
          refine r_ireti dX8_sortOf_29 rfl ?_
          refine ⟨?_, rfl⟩
          congr 3
          repeat split
          all_goals omega
    · refine r_bipush (pc2 := 14) dX8_sortOf_12 rfl (by decide) (by decide) ?_
      refine r_ireti dX8_sortOf_14 rfl ?_
      refine ⟨?_, rfl⟩
      congr 3
      repeat split
      all_goals omega
