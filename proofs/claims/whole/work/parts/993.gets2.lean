/-! shows, hopper, tries: both sides, where nothing is thrown -/
def shV (X : bS) (q : Nat) : Int := if X.1.1.1 q = 4 ∨ X.1.1.1 q = 7 ∨ X.1.1.1 q = 9 then X.2 q else if X.1.1.1 q = 6 then X.1.1.2 q else -1
set_option maxHeartbeats 4000000 in
theorem c_X0_shownAt {d : Nat} {M : pM} {q : Nat} {X : bS} {ix : Nat → Nat} (hS : sOk M.1) (hq : q < 156) (hC : CF M 19 X ix) (hk : bK X.1 X.2) : Ct (d + 2) 0 0 yX0_shownAt [.ref 19, .int (iI ((q : Nat) : Int))] M (fun v M2 => v = some (.int (iI (shV X q))) ∧ M2 = M) := by
  refine ct_in (d := (d + 1)) kX0_shownAt rfl (by decide) (Nat.le_of_ble_eq_true rfl) (by decide) ?_
  show Go (Ct (d + 1)) _ yX0_shownAt cX0_shownAt (some .int) 0 0 0 [some (.ref 19), some (.int (iI ((q : Nat) : Int)))] [] M
  have w1 := bK_pc hk q hq
  have w2 := hC.1.1.2.1 q hq
  have w3 := hk.1 q hq
  have ixl := hC.1.1.2.2.2.2.2.1 q hq
  have hN : mvg (X.1.1.1 q) → ((nib (M.2.2 19 11) (4 * ix q) : Nat) : Int) = X.2 q := fun hm => hC.2.1.nb hC.1.1.2.2.2.2.2 hq hm w3.2.2.1.1 (by have := w3.2.2.1.2; omega)
  have nl := nib_lt (M.2.2 19 11) (4 * ix q)
  refine r_aload0 (pc2 := 1) dX0_shownAt_0 rfl ?_
  refine r_getR (pc2 := 4) dX0_shownAt_1 rfl fX0_9 (hK_19 hS) (hR_19_0 hS) ?_
  refine r_iload1 (pc2 := 5) dX0_shownAt_4 rfl ?_
  refine r_iald (z := (X.1.1.1 q)) (pc2 := 6) dX0_shownAt_5 rfl (hK_20 hS) q rfl (by omega) (hC.1.1.1 q hq) ?_
  refine r_bipush (pc2 := 8) dX0_shownAt_6 rfl (by decide) (by decide) ?_
  refine r_icne (tgt := 18) (pc2 := 11) dX0_shownAt_8 rfl (by decide) ⟨by omega, by omega⟩ ⟨by omega, by omega⟩ (fun b_8 => ?_) (fun b_8 => ?_)
  · refine r_aload0 (pc2 := 19) dX0_shownAt_18 rfl ?_
    refine r_getR (pc2 := 22) dX0_shownAt_19 rfl fX0_9 (hK_19 hS) (hR_19_0 hS) ?_
    refine r_iload1 (pc2 := 23) dX0_shownAt_22 rfl ?_
    refine r_iald (z := (X.1.1.1 q)) (pc2 := 24) dX0_shownAt_23 rfl (hK_20 hS) q rfl (by omega) (hC.1.1.1 q hq) ?_
    refine r_cs1 (pc2 := 27) dX0_shownAt_24 rfl sX0_63 (by decide) (c_X0_isMoving (d := d) (k := X.1.1.1 q) ⟨by omega, by omega⟩) ?_
    by_cases hmv : X.1.1.1 q = 4 ∨ X.1.1.1 q = 7 ∨ X.1.1.1 q = 9
    · rintro _ M9 ⟨rfl, h9⟩
      rw [h9, show (if X.1.1.1 q = 4 ∨ X.1.1.1 q = 7 ∨ X.1.1.1 q = 9 then (1 : Int) else 0) = 1 from if_pos hmv]
      show Go (Ct (d + 1)) _ yX0_shownAt cX0_shownAt (some .int) 0 0 27 [some (.ref 19), some (.int (iI ((q : Nat) : Int)))] [.int (iI 1)] M
      refine r_ifeq (tgt := 48) (pc2 := 30) dX0_shownAt_27 rfl (by decide) ⟨by omega, by omega⟩ (fun h9 => absurd h9 (by decide)) (fun _ => ?_)
      refine r_aload0 (pc2 := 31) dX0_shownAt_30 rfl ?_
      refine r_getJ (z := (M.2.2 19 11)) (pc2 := 34) dX0_shownAt_31 rfl fX0_59 (hK_19 hS) rfl ?_
      refine r_aload0 (pc2 := 35) dX0_shownAt_34 rfl ?_
      refine r_getR (pc2 := 38) dX0_shownAt_35 rfl fX0_18 (hK_19 hS) (hR_19_2 hS) ?_
      refine r_iload1 (pc2 := 39) dX0_shownAt_38 rfl ?_
      refine r_iald (z := ((4 * ix q : Nat) : Int)) (pc2 := 40) dX0_shownAt_39 rfl (hK_22 hS) q rfl (by omega) (hC.1.1.2.2.1 q hq) ?_
      refine r_lushr (pc2 := 41) dX0_shownAt_40 rfl ?_
      refine r_l2i (pc2 := 42) dX0_shownAt_41 rfl ?_
      refine r_bipush (pc2 := 44) dX0_shownAt_42 rfl (by decide) (by decide) ?_
      refine r_iand (pc2 := 45) dX0_shownAt_44 rfl ?_
      rw [nib_u (M.2.2 19 11) (by omega)]
      refine r_goto (tgt := 49) dX0_shownAt_45 (by decide) ?_
      refine r_ireti dX0_shownAt_49 rfl ?_
      exact ⟨by unfold shV; rw [if_pos hmv, hN hmv], rfl⟩
    · rintro _ M9 ⟨rfl, h9⟩
      rw [h9, show (if X.1.1.1 q = 4 ∨ X.1.1.1 q = 7 ∨ X.1.1.1 q = 9 then (1 : Int) else 0) = 0 from if_neg hmv]
      show Go (Ct (d + 1)) _ yX0_shownAt cX0_shownAt (some .int) 0 0 27 [some (.ref 19), some (.int (iI ((q : Nat) : Int)))] [.int (iI 0)] M
      refine r_ifeq (tgt := 48) (pc2 := 30) dX0_shownAt_27 rfl (by decide) ⟨by omega, by omega⟩ (fun _ => ?_) (fun h9 => absurd h9 (by decide))
      refine r_iconst (pc2 := 49) dX0_shownAt_48 rfl ?_
      refine r_ireti dX0_shownAt_49 rfl ?_
      exact ⟨by unfold shV; rw [if_neg hmv, if_neg (by omega)], rfl⟩
  · refine r_aload0 (pc2 := 12) dX0_shownAt_11 rfl ?_
    refine r_getR (pc2 := 15) dX0_shownAt_12 rfl fX0_15 (hK_19 hS) (hR_19_1 hS) ?_
    refine r_iload1 (pc2 := 16) dX0_shownAt_15 rfl ?_
    refine r_iald (z := (M.2.1 21 q)) (pc2 := 17) dX0_shownAt_16 rfl (hK_21 hS) q rfl (by omega) rfl ?_
    refine r_ireti dX0_shownAt_17 rfl ?_
    exact ⟨by unfold shV; rw [if_neg (by omega), if_pos (by omega), w2.2.2 (Or.inl (by omega))], rfl⟩
set_option maxHeartbeats 4000000 in
theorem c_X11_shows {d : Nat} {M : pM} {x y : Int} {q : Nat} {X : bS} {ix : Nat → Nat} (hS : sOk M.1) (hxr : inR x) (hyr : inR y) (hq : q = (13 * y + x).toNat) (hC : CF M 19 X ix) (hk : bK X.1 X.2) : Ct (d + 3) 0 0 yX11_shows [.ref 2, .int (iI x), .int (iI y)] M (fun v M2 => v = some (.int (iI (if 0 ≤ x ∧ x < 13 ∧ 0 ≤ y ∧ y < 12 then shV X q else -1))) ∧ M2 = M) := by
  refine ct_in (d := (d + 2)) kX11_shows rfl (by decide) (Nat.le_of_ble_eq_true rfl) (by decide) ?_
  show Go (Ct (d + 2)) _ yX11_shows cX11_shows (some .int) 0 0 0 [some (.ref 2), some (.int (iI x)), some (.int (iI y))] [] M
  have hxr2 := hxr
  have hyr2 := hyr
  unfold inR at hxr2 hyr2
  refine r_iload1 (pc2 := 1) dX11_shows_0 rfl ?_
  refine r_iload2 (pc2 := 2) dX11_shows_1 rfl ?_
  refine r_cs2 (pc2 := 5) dX11_shows_2 rfl sX11_133 (by decide) (c_X11_isPlace (d := d + 1) (c := x) (r := y) hxr hyr) ?_
  by_cases hin : 0 ≤ x ∧ x < 13 ∧ 0 ≤ y ∧ y < 12
  · rintro _ M9 ⟨rfl, h9⟩
    rw [h9, show (if 0 ≤ x ∧ x < 13 ∧ 0 ≤ y ∧ y < 12 then (1 : Int) else 0) = 1 from if_pos hin]
    have hq1 : q < 156 := by omega
    show Go (Ct (d + 2)) _ yX11_shows cX11_shows (some .int) 0 0 5 [some (.ref 2), some (.int (iI x)), some (.int (iI y))] [.int (iI 1)] M
    refine r_ifeq (tgt := 23) (pc2 := 8) dX11_shows_5 rfl (by decide) ⟨by omega, by omega⟩ (fun h9 => absurd h9 (by decide)) (fun _ => ?_)
    refine r_aload0 (pc2 := 9) dX11_shows_8 rfl ?_
    refine r_getR (pc2 := 12) dX11_shows_9 rfl fX11_28 (hK_2 hS) (hR_2_2 hS) ?_
    refine r_iload1 (pc2 := 13) dX11_shows_12 rfl ?_
    refine r_iload2 (pc2 := 14) dX11_shows_13 rfl ?_
    refine r_cs2 (pc2 := 17) dX11_shows_14 rfl sX11_141 (Nat.le_of_ble_eq_true rfl) (c_X11_placeOf (d := d + 1) (c := x) (r := y)) ?_
    rintro _ M9 ⟨rfl, h9⟩
    rw [h9]
    rw [show 13 * y + x = ((q : Nat) : Int) by omega]
    show Go (Ct (d + 2)) _ yX11_shows cX11_shows (some .int) 0 0 17 [some (.ref 2), some (.int (iI x)), some (.int (iI y))] [.int (iI ((q : Nat) : Int)), .ref 19] M
    refine r_cv1 (pc2 := 20) dX11_shows_17 rfl vX11_145 (hK_19 hS) (by decide) (c_X0_shownAt (d := d) hS hq1 hC hk) ?_
    rintro _ M9 ⟨rfl, h9⟩
    rw [h9]
    show Go (Ct (d + 2)) _ yX11_shows cX11_shows (some .int) 0 0 20 [some (.ref 2), some (.int (iI x)), some (.int (iI y))] [.int (iI (shV X q))] M
    refine r_goto (tgt := 24) dX11_shows_20 (by decide) ?_
    refine r_ireti dX11_shows_24 rfl ?_
    exact ⟨by rw [if_pos hin], rfl⟩
  · rintro _ M9 ⟨rfl, h9⟩
    rw [h9, show (if 0 ≤ x ∧ x < 13 ∧ 0 ≤ y ∧ y < 12 then (1 : Int) else 0) = 0 from if_neg hin]
    show Go (Ct (d + 2)) _ yX11_shows cX11_shows (some .int) 0 0 5 [some (.ref 2), some (.int (iI x)), some (.int (iI y))] [.int (iI 0)] M
    refine r_ifeq (tgt := 23) (pc2 := 8) dX11_shows_5 rfl (by decide) ⟨by omega, by omega⟩ (fun _ => ?_) (fun h9 => absurd h9 (by decide))
    refine r_iconst (pc2 := 24) dX11_shows_23 rfl ?_
    refine r_ireti dX11_shows_24 rfl ?_
    exact ⟨by rw [if_neg hin], rfl⟩
set_option maxHeartbeats 4000000 in
theorem c_X12_shows {d : Nat} {M : pM} {x y : Int} {q : Nat} {B : Nat → bS} (hS : sOk M.1) (hxr : inR x) (hyr : inR y) (hq : q = (13 * y + x).toNat) (hB : MB M B) (hk : bK (B 0).1 (B 0).2) : Ct (d + 2) 0 0 yX12_shows [.ref 317, .int (iI x), .int (iI y)] M (fun v M2 => v = some (.int (iI (if 0 ≤ x ∧ x < 13 ∧ 0 ≤ y ∧ y < 12 then shV (B 0) q else -1))) ∧ M2 = pI M 317 0 0) := by
  refine ct_in (d := (d + 1)) kX12_shows rfl (by decide) (Nat.le_of_ble_eq_true rfl) (by decide) ?_
  show Go (Ct (d + 1)) _ yX12_shows cX12_shows (some .int) 0 0 0 [some (.ref 317), some (.int (iI x)), some (.int (iI y)), none] [] M
  have hxr2 := hxr
  have hyr2 := hyr
  unfold inR at hxr2 hyr2
  have w1 : q < 156 → 0 ≤ (B 0).1.1.1 q ∧ (B 0).1.1.1 q ≤ 9 := fun h => bK_pc hk q h
  refine r_aload0 (pc2 := 1) dX12_shows_0 rfl ?_
  refine r_iconst (pc2 := 2) dX12_shows_1 rfl ?_
  refine r_putI (z := 0) (pc2 := 5) dX12_shows_2 rfl fX12_1 (w12_0 _) (hK_317 hS) (by decide) ?_
  refine r_iload1 (pc2 := 6) dX12_shows_5 rfl ?_
  refine r_iload2 (pc2 := 7) dX12_shows_6 rfl ?_
  refine r_cs2 (pc2 := 10) dX12_shows_7 rfl sX12_379 (by decide) (c_X12_isPlace (d := d) (c := x) (r := y) hxr hyr) ?_
  by_cases hin : 0 ≤ x ∧ x < 13 ∧ 0 ≤ y ∧ y < 12
  · rintro _ M9 ⟨rfl, h9⟩
    rw [h9, show (if 0 ≤ x ∧ x < 13 ∧ 0 ≤ y ∧ y < 12 then (1 : Int) else 0) = 1 from if_pos hin]
    have hq1 : q < 156 := by omega
    show Go (Ct (d + 1)) _ yX12_shows cX12_shows (some .int) 0 0 10 [some (.ref 317), some (.int (iI x)), some (.int (iI y)), none] [.int (iI 1)] (pI M 317 0 0)
    refine r_ifeq (tgt := 27) (pc2 := 13) dX12_shows_10 rfl (by decide) ⟨by omega, by omega⟩ (fun h9 => absurd h9 (by decide)) (fun _ => ?_)
    refine r_aload0 (pc2 := 14) dX12_shows_13 rfl ?_
    refine r_getR (pc2 := 17) dX12_shows_14 rfl fX12_86 (hK_317 hS) (hR_317_17 hS) ?_
    refine r_bipush (pc2 := 19) dX12_shows_17 rfl (by decide) (by decide) ?_
    refine r_iload2 (pc2 := 20) dX12_shows_19 rfl ?_
    refine r_imul (c := (13 * y)) (pc2 := 21) dX12_shows_20 rfl rfl ?_
    refine r_iload1 (pc2 := 22) dX12_shows_21 rfl ?_
    refine r_iadd (c := ((q : Nat) : Int)) (pc2 := 23) dX12_shows_22 rfl (by omega) ?_
    refine r_iald (z := ((B 0).1.1.1 q)) (pc2 := 24) dX12_shows_23 rfl (hK_328 hS) q rfl (by omega) (by have h8 := (hB 0 (by omega)).1 q hq1; rw [show 156 * 0 + q = q by omega] at h8; exact h8.1) ?_
    refine r_goto (tgt := 28) dX12_shows_24 (by decide) ?_
    refine r_istore3 (pc2 := 29) dX12_shows_28 rfl rfl ?_
    refine r_iload3 (pc2 := 30) dX12_shows_29 rfl ?_
    refine r_cs1 (pc2 := 33) dX12_shows_30 rfl sX12_250 (by decide) (c_X12_isMoving (d := d) (k := ((B 0).1.1.1 q)) ⟨by omega, by omega⟩) ?_
    by_cases hmv : ((B 0).1.1.1 q) = 4 ∨ ((B 0).1.1.1 q) = 7 ∨ ((B 0).1.1.1 q) = 9
    · rintro _ M9 ⟨rfl, h9⟩
      rw [h9, show (if ((B 0).1.1.1 q) = 4 ∨ ((B 0).1.1.1 q) = 7 ∨ ((B 0).1.1.1 q) = 9 then (1 : Int) else 0) = 1 from if_pos hmv]
      show Go (Ct (d + 1)) _ yX12_shows cX12_shows (some .int) 0 0 33 [some (.ref 317), some (.int (iI x)), some (.int (iI y)), some (.int (iI ((B 0).1.1.1 q)))] [.int (iI 1)] (pI M 317 0 0)
      refine r_ifeq (tgt := 50) (pc2 := 36) dX12_shows_33 rfl (by decide) ⟨by omega, by omega⟩ (fun h9 => absurd h9 (by decide)) (fun _ => ?_)
      refine r_aload0 (pc2 := 37) dX12_shows_36 rfl ?_
      refine r_getR (pc2 := 40) dX12_shows_37 rfl fX12_92 (hK_317 hS) (hR_317_19 hS) ?_
      refine r_bipush (pc2 := 42) dX12_shows_40 rfl (by decide) (by decide) ?_
      refine r_iload2 (pc2 := 43) dX12_shows_42 rfl ?_
      refine r_imul (c := (13 * y)) (pc2 := 44) dX12_shows_43 rfl rfl ?_
      refine r_iload1 (pc2 := 45) dX12_shows_44 rfl ?_
      refine r_iadd (c := ((q : Nat) : Int)) (pc2 := 46) dX12_shows_45 rfl (by omega) ?_
      refine r_iald (z := ((B 0).2 q)) (pc2 := 47) dX12_shows_46 rfl (hK_330 hS) q rfl (by omega) (by have h8 := (hB 0 (by omega)).1 q hq1; rw [show 156 * 0 + q = q by omega] at h8; exact h8.2.2) ?_
      refine r_goto (tgt := 71) dX12_shows_47 (by decide) ?_
      refine r_ireti dX12_shows_71 rfl ?_
      exact ⟨by rw [if_pos hin]; unfold shV; rw [if_pos hmv], rfl⟩
    · rintro _ M9 ⟨rfl, h9⟩
      rw [h9, show (if ((B 0).1.1.1 q) = 4 ∨ ((B 0).1.1.1 q) = 7 ∨ ((B 0).1.1.1 q) = 9 then (1 : Int) else 0) = 0 from if_neg hmv]
      show Go (Ct (d + 1)) _ yX12_shows cX12_shows (some .int) 0 0 33 [some (.ref 317), some (.int (iI x)), some (.int (iI y)), some (.int (iI ((B 0).1.1.1 q)))] [.int (iI 0)] (pI M 317 0 0)
      refine r_ifeq (tgt := 50) (pc2 := 36) dX12_shows_33 rfl (by decide) ⟨by omega, by omega⟩ (fun _ => ?_) (fun h9 => absurd h9 (by decide))
      refine r_iload3 (pc2 := 51) dX12_shows_50 rfl ?_
      refine r_bipush (pc2 := 53) dX12_shows_51 rfl (by decide) (by decide) ?_
      refine r_icne (tgt := 70) (pc2 := 56) dX12_shows_53 rfl (by decide) ⟨by omega, by omega⟩ ⟨by omega, by omega⟩ (fun b_53 => ?_) (fun b_53 => ?_)
      · refine r_iconst (pc2 := 71) dX12_shows_70 rfl ?_
        refine r_ireti dX12_shows_71 rfl ?_
        exact ⟨by rw [if_pos hin]; unfold shV; rw [if_neg hmv, if_neg (by omega)], rfl⟩
      · refine r_aload0 (pc2 := 57) dX12_shows_56 rfl ?_
        refine r_getR (pc2 := 60) dX12_shows_57 rfl fX12_89 (hK_317 hS) (hR_317_18 hS) ?_
        refine r_bipush (pc2 := 62) dX12_shows_60 rfl (by decide) (by decide) ?_
        refine r_iload2 (pc2 := 63) dX12_shows_62 rfl ?_
        refine r_imul (c := (13 * y)) (pc2 := 64) dX12_shows_63 rfl rfl ?_
        refine r_iload1 (pc2 := 65) dX12_shows_64 rfl ?_
        refine r_iadd (c := ((q : Nat) : Int)) (pc2 := 66) dX12_shows_65 rfl (by omega) ?_
        refine r_iald (z := ((B 0).1.1.2 q)) (pc2 := 67) dX12_shows_66 rfl (hK_329 hS) q rfl (by omega) (by have h8 := (hB 0 (by omega)).1 q hq1; rw [show 156 * 0 + q = q by omega] at h8; exact h8.2.1) ?_
        refine r_goto (tgt := 71) dX12_shows_67 (by decide) ?_
        refine r_ireti dX12_shows_71 rfl ?_
        exact ⟨by rw [if_pos hin]; unfold shV; rw [if_neg hmv, if_pos (by omega)], rfl⟩
  · rintro _ M9 ⟨rfl, h9⟩
    rw [h9, show (if 0 ≤ x ∧ x < 13 ∧ 0 ≤ y ∧ y < 12 then (1 : Int) else 0) = 0 from if_neg hin]
    show Go (Ct (d + 1)) _ yX12_shows cX12_shows (some .int) 0 0 10 [some (.ref 317), some (.int (iI x)), some (.int (iI y)), none] [.int (iI 0)] (pI M 317 0 0)
    refine r_ifeq (tgt := 27) (pc2 := 13) dX12_shows_10 rfl (by decide) ⟨by omega, by omega⟩ (fun _ => ?_) (fun h9 => absurd h9 (by decide))
    refine r_iconst (pc2 := 28) dX12_shows_27 rfl ?_
    refine r_istore3 (pc2 := 29) dX12_shows_28 rfl rfl ?_
    refine r_iload3 (pc2 := 30) dX12_shows_29 rfl ?_
    refine r_cs1 (pc2 := 33) dX12_shows_30 rfl sX12_250 (by decide) (c_X12_isMoving (d := d) (k := 0) ⟨by omega, by omega⟩) ?_
    rintro _ M9 ⟨rfl, h9⟩
    rw [h9, show (if (0 : Int) = 4 ∨ (0 : Int) = 7 ∨ (0 : Int) = 9 then (1 : Int) else 0) = 0 from if_neg (by decide)]
    show Go (Ct (d + 1)) _ yX12_shows cX12_shows (some .int) 0 0 33 [some (.ref 317), some (.int (iI x)), some (.int (iI y)), some (.int (iI 0))] [.int (iI 0)] (pI M 317 0 0)
    refine r_ifeq (tgt := 50) (pc2 := 36) dX12_shows_33 rfl (by decide) ⟨by omega, by omega⟩ (fun _ => ?_) (fun h9 => absurd h9 (by decide))
    refine r_iload3 (pc2 := 51) dX12_shows_50 rfl ?_
    refine r_bipush (pc2 := 53) dX12_shows_51 rfl (by decide) (by decide) ?_
    refine r_icne (tgt := 70) (pc2 := 56) dX12_shows_53 rfl (by decide) ⟨by omega, by omega⟩ ⟨by omega, by omega⟩ (fun _ => ?_) (fun h9 => absurd h9 (by decide))
    refine r_iconst (pc2 := 71) dX12_shows_70 rfl ?_
    refine r_ireti dX12_shows_71 rfl ?_
    exact ⟨by rw [if_neg hin], rfl⟩
set_option maxHeartbeats 4000000 in
theorem c_X12_hopper {d : Nat} {M : pM} {h : Nat} {w : Int} {B : Nat → bS} (hS : sOk M.1) (hh : h < 4) (hw : 0 ≤ w ∧ w ≤ 2) (hB : MB M B) : Ct (d + 2) 0 0 yX12_hopper [.ref 317, .int (iI ((h : Nat) : Int)), .int (iI w)] M (fun v M2 => v = some (.int (iI (if w = 0 then (((B 0).1.2.2.1 h : Nat) : Int) else if w = 1 then (B 0).1.2.1 h else (B 0).1.2.2.2.2 h))) ∧ M2 = pI M 317 0 0) := by
  refine ct_in (d := (d + 1)) kX12_hopper rfl (by decide) (Nat.le_of_ble_eq_true rfl) (by decide) ?_
  show Go (Ct (d + 1)) _ yX12_hopper cX12_hopper (some .int) 0 0 0 [some (.ref 317), some (.int (iI ((h : Nat) : Int))), some (.int (iI w))] [] M
  refine r_aload0 (pc2 := 1) dX12_hopper_0 rfl ?_
  refine r_iload1 (pc2 := 2) dX12_hopper_1 rfl ?_
  refine r_cs1 (pc2 := 5) dX12_hopper_2 rfl sX12_306 (Nat.le_of_ble_eq_true rfl) (c_X12_isHopper (d := d) (h := ((h : Nat) : Int)) ⟨by omega, by omega⟩) ?_
  rintro _ M9 ⟨rfl, h9⟩
  rw [h9, if_pos (show 0 ≤ ((h : Nat) : Int) ∧ ((h : Nat) : Int) < 4 by omega)]
  show Go (Ct (d + 1)) _ yX12_hopper cX12_hopper (some .int) 0 0 5 [some (.ref 317), some (.int (iI ((h : Nat) : Int))), some (.int (iI w))] [.int (iI 1), .ref 317] M
  refine r_ifeq (tgt := 21) (pc2 := 8) dX12_hopper_5 rfl (by decide) ⟨by omega, by omega⟩ (fun h9 => absurd h9 (by decide)) (fun _ => ?_)
  refine r_iload2 (pc2 := 9) dX12_hopper_8 rfl ?_
  refine r_iflt (tgt := 21) (pc2 := 12) dX12_hopper_9 rfl (by decide) ⟨by omega, by omega⟩ (fun b_9 => ?_) (fun b_9 => ?_)
  · refine r_iconst (pc2 := 22) dX12_hopper_21 rfl ?_
    refine r_putI (z := 1) (pc2 := 25) dX12_hopper_22 rfl fX12_1 (w12_0 _) (hK_317 hS) (by decide) ?_
    refine r_aload0 (pc2 := 26) dX12_hopper_25 rfl ?_
    refine r_getI (z := 1) (pc2 := 29) dX12_hopper_26 rfl (Or.inl fX12_1) (hK_317 hS) rfl ?_
    refine r_ifle (tgt := 36) (pc2 := 32) dX12_hopper_29 rfl (by decide) ⟨by omega, by omega⟩ (fun b_29 => ?_) (fun b_29 => ?_)
    · refine r_iload2 (pc2 := 37) dX12_hopper_36 rfl ?_
      refine r_ifne (tgt := 49) (pc2 := 40) dX12_hopper_37 rfl (by decide) ⟨by omega, by omega⟩ (fun b_37 => ?_) (fun b_37 => ?_)
      · refine r_iload2 (pc2 := 50) dX12_hopper_49 rfl ?_
        refine r_iconst (pc2 := 51) dX12_hopper_50 rfl ?_
        refine r_icne (tgt := 63) (pc2 := 54) dX12_hopper_51 rfl (by decide) ⟨by omega, by omega⟩ ⟨by omega, by omega⟩ (fun b_51 => ?_) (fun b_51 => ?_)
        · refine r_aload0 (pc2 := 64) dX12_hopper_63 rfl ?_
          refine r_getR (pc2 := 67) dX12_hopper_64 rfl fX12_104 (hK_317 hS) (hR_317_23 hS) ?_
          refine r_iload1 (pc2 := 68) dX12_hopper_67 rfl ?_
          refine r_iald (z := ((B 0).1.2.2.2.2 h)) (pc2 := 69) dX12_hopper_68 rfl (hK_334 hS) h rfl (by omega) (by have h8 := (hB 0 (by omega)).2.1 h hh; rw [show 4 * 0 + h = h by omega] at h8; exact h8.2.2) ?_
          refine r_ireti dX12_hopper_69 rfl ?_
          exact absurd b_9 (by omega)
        · refine r_aload0 (pc2 := 55) dX12_hopper_54 rfl ?_
          refine r_getR (pc2 := 58) dX12_hopper_55 rfl fX12_101 (hK_317 hS) (hR_317_22 hS) ?_
          refine r_iload1 (pc2 := 59) dX12_hopper_58 rfl ?_
          refine r_iald (z := ((B 0).1.2.1 h)) (pc2 := 60) dX12_hopper_59 rfl (hK_333 hS) h rfl (by omega) (by have h8 := (hB 0 (by omega)).2.1 h hh; rw [show 4 * 0 + h = h by omega] at h8; exact h8.1) ?_
          refine r_goto (tgt := 69) dX12_hopper_60 (by decide) ?_
          refine r_ireti dX12_hopper_69 rfl ?_
          exact absurd b_9 (by omega)
      · refine r_aload0 (pc2 := 41) dX12_hopper_40 rfl ?_
        refine r_getR (pc2 := 44) dX12_hopper_41 rfl fX12_98 (hK_317 hS) (hR_317_21 hS) ?_
        refine r_iload1 (pc2 := 45) dX12_hopper_44 rfl ?_
        refine r_iald (z := (((B 0).1.2.2.1 h : Nat) : Int)) (pc2 := 46) dX12_hopper_45 rfl (hK_332 hS) h rfl (by omega) (by have h8 := (hB 0 (by omega)).2.1 h hh; rw [show 4 * 0 + h = h by omega] at h8; exact h8.2.1) ?_
        refine r_goto (tgt := 69) dX12_hopper_46 (by decide) ?_
        refine r_ireti dX12_hopper_69 rfl ?_
        exact absurd b_9 (by omega)
    · refine r_iconst (pc2 := 33) dX12_hopper_32 rfl ?_
      refine r_goto (tgt := 69) dX12_hopper_33 (by decide) ?_
      refine r_ireti dX12_hopper_69 rfl ?_
      exact absurd b_9 (by omega)
  · refine r_iload2 (pc2 := 13) dX12_hopper_12 rfl ?_
    refine r_iconst (pc2 := 14) dX12_hopper_13 rfl ?_
    refine r_icgt (tgt := 21) (pc2 := 17) dX12_hopper_14 rfl (by decide) ⟨by omega, by omega⟩ ⟨by omega, by omega⟩ (fun b_14 => ?_) (fun b_14 => ?_)
    · refine r_iconst (pc2 := 22) dX12_hopper_21 rfl ?_
      refine r_putI (z := 1) (pc2 := 25) dX12_hopper_22 rfl fX12_1 (w12_0 _) (hK_317 hS) (by decide) ?_
      refine r_aload0 (pc2 := 26) dX12_hopper_25 rfl ?_
      refine r_getI (z := 1) (pc2 := 29) dX12_hopper_26 rfl (Or.inl fX12_1) (hK_317 hS) rfl ?_
      refine r_ifle (tgt := 36) (pc2 := 32) dX12_hopper_29 rfl (by decide) ⟨by omega, by omega⟩ (fun b_29 => ?_) (fun b_29 => ?_)
      · refine r_iload2 (pc2 := 37) dX12_hopper_36 rfl ?_
        refine r_ifne (tgt := 49) (pc2 := 40) dX12_hopper_37 rfl (by decide) ⟨by omega, by omega⟩ (fun b_37 => ?_) (fun b_37 => ?_)
        · refine r_iload2 (pc2 := 50) dX12_hopper_49 rfl ?_
          refine r_iconst (pc2 := 51) dX12_hopper_50 rfl ?_
          refine r_icne (tgt := 63) (pc2 := 54) dX12_hopper_51 rfl (by decide) ⟨by omega, by omega⟩ ⟨by omega, by omega⟩ (fun b_51 => ?_) (fun b_51 => ?_)
          · refine r_aload0 (pc2 := 64) dX12_hopper_63 rfl ?_
            refine r_getR (pc2 := 67) dX12_hopper_64 rfl fX12_104 (hK_317 hS) (hR_317_23 hS) ?_
            refine r_iload1 (pc2 := 68) dX12_hopper_67 rfl ?_
            refine r_iald (z := ((B 0).1.2.2.2.2 h)) (pc2 := 69) dX12_hopper_68 rfl (hK_334 hS) h rfl (by omega) (by have h8 := (hB 0 (by omega)).2.1 h hh; rw [show 4 * 0 + h = h by omega] at h8; exact h8.2.2) ?_
            refine r_ireti dX12_hopper_69 rfl ?_
            exact absurd b_14 (by omega)
          · refine r_aload0 (pc2 := 55) dX12_hopper_54 rfl ?_
            refine r_getR (pc2 := 58) dX12_hopper_55 rfl fX12_101 (hK_317 hS) (hR_317_22 hS) ?_
            refine r_iload1 (pc2 := 59) dX12_hopper_58 rfl ?_
            refine r_iald (z := ((B 0).1.2.1 h)) (pc2 := 60) dX12_hopper_59 rfl (hK_333 hS) h rfl (by omega) (by have h8 := (hB 0 (by omega)).2.1 h hh; rw [show 4 * 0 + h = h by omega] at h8; exact h8.1) ?_
            refine r_goto (tgt := 69) dX12_hopper_60 (by decide) ?_
            refine r_ireti dX12_hopper_69 rfl ?_
            exact absurd b_14 (by omega)
        · refine r_aload0 (pc2 := 41) dX12_hopper_40 rfl ?_
          refine r_getR (pc2 := 44) dX12_hopper_41 rfl fX12_98 (hK_317 hS) (hR_317_21 hS) ?_
          refine r_iload1 (pc2 := 45) dX12_hopper_44 rfl ?_
          refine r_iald (z := (((B 0).1.2.2.1 h : Nat) : Int)) (pc2 := 46) dX12_hopper_45 rfl (hK_332 hS) h rfl (by omega) (by have h8 := (hB 0 (by omega)).2.1 h hh; rw [show 4 * 0 + h = h by omega] at h8; exact h8.2.1) ?_
          refine r_goto (tgt := 69) dX12_hopper_46 (by decide) ?_
          refine r_ireti dX12_hopper_69 rfl ?_
          exact absurd b_14 (by omega)
      · refine r_iconst (pc2 := 33) dX12_hopper_32 rfl ?_
        refine r_goto (tgt := 69) dX12_hopper_33 (by decide) ?_
        refine r_ireti dX12_hopper_69 rfl ?_
        exact absurd b_14 (by omega)
    · refine r_iconst (pc2 := 18) dX12_hopper_17 rfl ?_
      refine r_goto (tgt := 22) dX12_hopper_18 (by decide) ?_
      refine r_putI (z := 0) (pc2 := 25) dX12_hopper_22 rfl fX12_1 (w12_0 _) (hK_317 hS) (by decide) ?_
      refine r_aload0 (pc2 := 26) dX12_hopper_25 rfl ?_
      refine r_getI (z := 0) (pc2 := 29) dX12_hopper_26 rfl (Or.inl fX12_1) (hK_317 hS) rfl ?_
      refine r_ifle (tgt := 36) (pc2 := 32) dX12_hopper_29 rfl (by decide) ⟨by omega, by omega⟩ (fun b_29 => ?_) (fun b_29 => ?_)
      · refine r_iload2 (pc2 := 37) dX12_hopper_36 rfl ?_
        refine r_ifne (tgt := 49) (pc2 := 40) dX12_hopper_37 rfl (by decide) ⟨by omega, by omega⟩ (fun b_37 => ?_) (fun b_37 => ?_)
        · refine r_iload2 (pc2 := 50) dX12_hopper_49 rfl ?_
          refine r_iconst (pc2 := 51) dX12_hopper_50 rfl ?_
          refine r_icne (tgt := 63) (pc2 := 54) dX12_hopper_51 rfl (by decide) ⟨by omega, by omega⟩ ⟨by omega, by omega⟩ (fun b_51 => ?_) (fun b_51 => ?_)
          · refine r_aload0 (pc2 := 64) dX12_hopper_63 rfl ?_
            refine r_getR (pc2 := 67) dX12_hopper_64 rfl fX12_104 (hK_317 hS) (hR_317_23 hS) ?_
            refine r_iload1 (pc2 := 68) dX12_hopper_67 rfl ?_
            refine r_iald (z := ((B 0).1.2.2.2.2 h)) (pc2 := 69) dX12_hopper_68 rfl (hK_334 hS) h rfl (by omega) (by have h8 := (hB 0 (by omega)).2.1 h hh; rw [show 4 * 0 + h = h by omega] at h8; exact h8.2.2) ?_
            refine r_ireti dX12_hopper_69 rfl ?_
            exact ⟨by rw [if_neg (by omega), if_neg (by omega)], rfl⟩
          · refine r_aload0 (pc2 := 55) dX12_hopper_54 rfl ?_
            refine r_getR (pc2 := 58) dX12_hopper_55 rfl fX12_101 (hK_317 hS) (hR_317_22 hS) ?_
            refine r_iload1 (pc2 := 59) dX12_hopper_58 rfl ?_
            refine r_iald (z := ((B 0).1.2.1 h)) (pc2 := 60) dX12_hopper_59 rfl (hK_333 hS) h rfl (by omega) (by have h8 := (hB 0 (by omega)).2.1 h hh; rw [show 4 * 0 + h = h by omega] at h8; exact h8.1) ?_
            refine r_goto (tgt := 69) dX12_hopper_60 (by decide) ?_
            refine r_ireti dX12_hopper_69 rfl ?_
            exact ⟨by rw [if_neg (by omega), if_pos (by omega)], rfl⟩
        · refine r_aload0 (pc2 := 41) dX12_hopper_40 rfl ?_
          refine r_getR (pc2 := 44) dX12_hopper_41 rfl fX12_98 (hK_317 hS) (hR_317_21 hS) ?_
          refine r_iload1 (pc2 := 45) dX12_hopper_44 rfl ?_
          refine r_iald (z := (((B 0).1.2.2.1 h : Nat) : Int)) (pc2 := 46) dX12_hopper_45 rfl (hK_332 hS) h rfl (by omega) (by have h8 := (hB 0 (by omega)).2.1 h hh; rw [show 4 * 0 + h = h by omega] at h8; exact h8.2.1) ?_
          refine r_goto (tgt := 69) dX12_hopper_46 (by decide) ?_
          refine r_ireti dX12_hopper_69 rfl ?_
          exact ⟨by rw [if_pos (by omega)], rfl⟩
      · refine r_iconst (pc2 := 33) dX12_hopper_32 rfl ?_
        refine r_goto (tgt := 69) dX12_hopper_33 (by decide) ?_
        refine r_ireti dX12_hopper_69 rfl ?_
        exact absurd b_29 (by decide)
set_option maxHeartbeats 4000000 in
theorem c_X12_tries {d : Nat} {M : pM} {h : Nat} {B : Nat → bS} (hS : sOk M.1) (hh : h < 4) (hB : MB M B) (hD : bOk (B 0).1) (hk : bK (B 0).1 (B 0).2) : Ct (d + 4) 0 0 yX12_tries [.ref 317, .int (iI ((h : Nat) : Int))] M (fun v M2 => v = some (.int (iI (bH (B 0).1 (-2) (B 0).2 h).1)) ∧ MB M2 B ∧ fr [317, 328, 329, 330, 331, 332, 333, 334, 335, 336] M M2 ∧ (∀ j, j ≠ 0 → M2.2.1 317 j = M.2.1 317 j) ∧ M2.2.1 317 0 = 0) := by
  refine ct_in (d := (d + 3)) kX12_tries rfl (by decide) (Nat.le_of_ble_eq_true rfl) (by decide) ?_
  show Go (Ct (d + 3)) _ yX12_tries cX12_tries (some .int) 0 0 0 [some (.ref 317), some (.int (iI ((h : Nat) : Int)))] [] M
  refine r_aload0 (pc2 := 1) dX12_tries_0 rfl ?_
  refine r_iload1 (pc2 := 2) dX12_tries_1 rfl ?_
  refine r_cs1 (pc2 := 5) dX12_tries_2 rfl sX12_306 (Nat.le_of_ble_eq_true rfl) (c_X12_isHopper (d := d + 2) (h := ((h : Nat) : Int)) ⟨by omega, by omega⟩) ?_
  rintro _ M9 ⟨rfl, h9⟩
  rw [h9, if_pos (show 0 ≤ ((h : Nat) : Int) ∧ ((h : Nat) : Int) < 4 by omega)]
  show Go (Ct (d + 3)) _ yX12_tries cX12_tries (some .int) 0 0 5 [some (.ref 317), some (.int (iI ((h : Nat) : Int)))] [.int (iI 1), .ref 317] M
  refine r_ifeq (tgt := 12) (pc2 := 8) dX12_tries_5 rfl (by decide) ⟨by omega, by omega⟩ (fun h9 => absurd h9 (by decide)) (fun _ => ?_)
  refine r_iconst (pc2 := 9) dX12_tries_8 rfl ?_
  refine r_goto (tgt := 13) dX12_tries_9 (by decide) ?_
  refine r_putI (z := 0) (pc2 := 16) dX12_tries_13 rfl fX12_1 (w12_0 _) (hK_317 hS) (by decide) ?_
  refine r_aload0 (pc2 := 17) dX12_tries_16 rfl ?_
  refine r_getI (z := 0) (pc2 := 20) dX12_tries_17 rfl (Or.inl fX12_1) (hK_317 hS) rfl ?_
  refine r_ifle (tgt := 25) (pc2 := 23) dX12_tries_20 rfl (by decide) ⟨by omega, by omega⟩ (fun b_20 => ?_) (fun b_20 => ?_)
  · refine r_aload0 (pc2 := 26) dX12_tries_25 rfl ?_
    refine r_iconst (pc2 := 27) dX12_tries_26 rfl ?_
    refine r_bipush (pc2 := 29) dX12_tries_27 rfl (by decide) (by decide) ?_
    refine r_cv2 (pc2 := 32) dX12_tries_29 rfl vX12_256 (hK_317 hS) (by decide) (c_X12_copies (d := d + 2) (s := 0) (t := 26) hS (by decide) (by decide)) ?_
    rintro _ M1 ⟨rfl, h1⟩
    have hS1 := h1.1.ok hS
    have hz := hB.z (k := 0) (z := 0)
    have hB1 : MB M1 B := fun i hi => (hz i hi).cpo h1 (by omega)
    have hT1 : MD M1 26 (B 0).1 (B 0).2 := (hz 0 (by omega)).cp h1
    show Go (Ct (d + 3)) _ yX12_tries cX12_tries (some .int) 0 0 32 [some (.ref 317), some (.int (iI ((h : Nat) : Int)))] [] M1
    refine r_aload0 (pc2 := 33) dX12_tries_32 rfl ?_
    refine r_bipush (pc2 := 35) dX12_tries_33 rfl (by decide) (by decide) ?_
    refine r_iconst (pc2 := 36) dX12_tries_35 rfl ?_
    refine r_cv2 (pc2 := 39) dX12_tries_36 rfl vX12_309 (hK_317 hS1) (by decide) (c_X12_findTrains (d := d + 1) (b := 26) (sl := 0) (pc := (B 0).1.1.1) hS1 (by decide) (by decide) (fun q hq => ⟨(hT1.1 q hq).1, bK_pc hk q hq⟩)) ?_
    rintro _ M2 ⟨rfl, f2, e2⟩
    have hS2 := f2.ok hS1
    have hm2 : MS M2 26 0 (B 0).1 := hT1.ms f2 e2
    have hT2 := hT1.ofl f2 (by decide)
    show Go (Ct (d + 3)) _ yX12_tries cX12_tries (some .int) 0 0 39 [some (.ref 317), some (.int (iI ((h : Nat) : Int)))] [] M2
    refine r_aload0 (pc2 := 40) dX12_tries_39 rfl ?_
    refine r_bipush (pc2 := 42) dX12_tries_40 rfl (by decide) (by decide) ?_
    refine r_iconst (pc2 := 43) dX12_tries_42 rfl ?_
    refine r_iload1 (pc2 := 44) dX12_tries_43 rfl ?_
    refine r_bipush (pc2 := 46) dX12_tries_44 rfl (by decide) (by decide) ?_
    refine r_cv4 (pc2 := 49) dX12_tries_46 rfl vX12_312 (hK_317 hS2) (by decide) (MS_drop (d := d) (st := -2) (sh := (B 0).2) hm2 hS2 (by decide) (by decide) hD hh hk (fun q hq => (hT2.1 q hq).2.2) (by decide)) ?_
    rintro _ M3 ⟨rfl, f3, e3⟩
    show Go (Ct (d + 3)) _ yX12_tries cX12_tries (some .int) 0 0 49 [some (.ref 317), some (.int (iI ((h : Nat) : Int)))] [.int (iI (bH (B 0).1 (-2) (B 0).2 h).1)] M3
    refine r_ireti dX12_tries_49 rfl ?_
    refine ⟨rfl, fun i hi => ?_, (((fr.rf.I (by decide)).tr (h1.1.mono (by decide))).tr (f2.mono (by decide))).tr (f3.mono (by decide)), fun j j0 => ?_, ?_⟩
    · have h9 := (hB1 i hi).ofl f2 (by decide)
      refine ⟨fun q hq => ?_, fun q hq => ?_, fun q hq => ?_⟩
      · rw [f3.i (by decide), f3.i (by decide), e3, sB_out (show 156 * i + q < 156 * 26 ∨ 156 * 26 + 156 ≤ 156 * i + q by omega)]; exact h9.1 q hq
      · rw [f3.i (by decide), f3.i (by decide), f3.i (by decide)]; exact h9.2.1 q hq
      · rw [f3.i (by decide)]; exact h9.2.2 q hq
    · rw [f3.i (by decide), f2.i (by decide), h1.1.i (by decide), pI_nk j0]
    · rw [f3.i (by decide), f2.i (by decide), h1.1.i (by decide), pI_at]
  · refine r_iconst (pc2 := 24) dX12_tries_23 rfl ?_
    refine r_ireti dX12_tries_24 rfl ?_
    exact absurd b_20 (by decide)
