/-! hopper and tries of the class where nothing is thrown; counts -/
def lvc (lv : Nat → Int) : Nat → Nat
  | 0 => 0
  | q + 1 => if lv q < 0 then lvc lv q else lvc lv q + 1
theorem lvc_le {lv : Nat → Int} : ∀ q, lvc lv q ≤ q := by
  intro q
  induction q with
  | zero => exact Nat.le_refl _
  | succ q ih => rw [lvc]; split <;> omega
set_option maxHeartbeats 4000000 in
theorem c_X11_hopper {d : Nat} {M : pM} {h : Nat} {w : Int} {X : bS} {ix : Nat → Nat} (hS : sOk M.1) (hh : h < 4) (hw : 0 ≤ w ∧ w ≤ 2) (hC : CF M 19 X ix) : Ct (d + 2) 0 0 yX11_hopper [.ref 2, .int (iI ((h : Nat) : Int)), .int (iI w)] M (fun v M2 => v = some (.int (iI (if w = 0 then ((X.1.2.2.1 h : Nat) : Int) else if w = 1 then X.1.2.1 h else X.1.2.2.2.2 h))) ∧ M2 = M) := by
  refine ct_in (d := (d + 1)) kX11_hopper rfl (by decide) (Nat.le_of_ble_eq_true rfl) (by decide) ?_
  show Go (Ct (d + 1)) _ yX11_hopper cX11_hopper (some .int) 0 0 0 [some (.ref 2), some (.int (iI ((h : Nat) : Int))), some (.int (iI w))] [] M
  refine r_iload1 (pc2 := 1) dX11_hopper_0 rfl ?_
  refine r_cs1 (pc2 := 4) dX11_hopper_1 rfl sX11_155 (by decide) (c_X11_isHopper (d := d) (h := ((h : Nat) : Int)) ⟨by omega, by omega⟩) ?_
  rintro _ M9 ⟨rfl, h9⟩
  rw [h9, if_pos (show 0 ≤ ((h : Nat) : Int) ∧ ((h : Nat) : Int) < 4 by omega)]
  show Go (Ct (d + 1)) _ yX11_hopper cX11_hopper (some .int) 0 0 4 [some (.ref 2), some (.int (iI ((h : Nat) : Int))), some (.int (iI w))] [.int (iI 1)] M
  refine r_ifeq (tgt := 16) (pc2 := 7) dX11_hopper_4 rfl (by decide) ⟨by omega, by omega⟩ (fun h9 => absurd h9 (by decide)) (fun _ => ?_)
  refine r_iload2 (pc2 := 8) dX11_hopper_7 rfl ?_
  refine r_iflt (tgt := 16) (pc2 := 11) dX11_hopper_8 rfl (by decide) ⟨by omega, by omega⟩ (fun b_8 => ?_) (fun b_8 => ?_)
  · exact absurd b_8 (by omega)
  · refine r_iload2 (pc2 := 12) dX11_hopper_11 rfl ?_
    refine r_iconst (pc2 := 13) dX11_hopper_12 rfl ?_
    refine r_icle (tgt := 24) (pc2 := 16) dX11_hopper_13 rfl (by decide) ⟨by omega, by omega⟩ ⟨by omega, by omega⟩ (fun b_13 => ?_) (fun b_13 => ?_)
    · refine r_iload2 (pc2 := 25) dX11_hopper_24 rfl ?_
      refine r_ifne (tgt := 38) (pc2 := 28) dX11_hopper_25 rfl (by decide) ⟨by omega, by omega⟩ (fun b_25 => ?_) (fun b_25 => ?_)
      · refine r_iload2 (pc2 := 39) dX11_hopper_38 rfl ?_
        refine r_iconst (pc2 := 40) dX11_hopper_39 rfl ?_
        refine r_icne (tgt := 55) (pc2 := 43) dX11_hopper_40 rfl (by decide) ⟨by omega, by omega⟩ ⟨by omega, by omega⟩ (fun b_40 => ?_) (fun b_40 => ?_)
        · refine r_aload0 (pc2 := 56) dX11_hopper_55 rfl ?_
          refine r_getR (pc2 := 59) dX11_hopper_56 rfl fX11_28 (hK_2 hS) (hR_2_2 hS) ?_
          refine r_getR (pc2 := 62) dX11_hopper_59 rfl fX11_168 (hK_19 hS) (hR_19_8 hS) ?_
          refine r_iload1 (pc2 := 63) dX11_hopper_62 rfl ?_
          refine r_iald (z := (X.1.2.2.2.2 h)) (pc2 := 64) dX11_hopper_63 rfl (hK_28 hS) h rfl (by omega) (hC.1.2.1 h hh).2.2 ?_
          refine r_ireti dX11_hopper_64 rfl ?_
          exact ⟨by rw [if_neg (by omega), if_neg (by omega)], rfl⟩
        · refine r_aload0 (pc2 := 44) dX11_hopper_43 rfl ?_
          refine r_getR (pc2 := 47) dX11_hopper_44 rfl fX11_28 (hK_2 hS) (hR_2_2 hS) ?_
          refine r_getR (pc2 := 50) dX11_hopper_47 rfl fX11_165 (hK_19 hS) (hR_19_7 hS) ?_
          refine r_iload1 (pc2 := 51) dX11_hopper_50 rfl ?_
          refine r_iald (z := (X.1.2.1 h)) (pc2 := 52) dX11_hopper_51 rfl (hK_27 hS) h rfl (by omega) (hC.1.2.1 h hh).1 ?_
          refine r_goto (tgt := 64) dX11_hopper_52 (by decide) ?_
          refine r_ireti dX11_hopper_64 rfl ?_
          exact ⟨by rw [if_neg (by omega), if_pos (by omega)], rfl⟩
      · refine r_aload0 (pc2 := 29) dX11_hopper_28 rfl ?_
        refine r_getR (pc2 := 32) dX11_hopper_29 rfl fX11_28 (hK_2 hS) (hR_2_2 hS) ?_
        refine r_getR (pc2 := 35) dX11_hopper_32 rfl fX11_162 (hK_19 hS) (hR_19_6 hS) ?_
        refine r_iload1 (pc2 := 36) dX11_hopper_35 rfl ?_
        refine r_iald (z := ((X.1.2.2.1 h : Nat) : Int)) (pc2 := 37) dX11_hopper_36 rfl (hK_26 hS) h rfl (by omega) (hC.1.2.1 h hh).2.1 ?_
        refine r_ireti dX11_hopper_37 rfl ?_
        exact ⟨by rw [if_pos (by omega)], rfl⟩
    · exact absurd b_13 (by omega)
set_option maxHeartbeats 4000000 in
theorem c_X11_tries {d : Nat} {M : pM} {h : Nat} {X : bS} {ix : Nat → Nat} (hS : sOk M.1) (hh : h < 4) (hC : CF M 19 X ix) (hD : bOk X.1) (hk : bK X.1 X.2) : Ct (d + 4) 0 0 yX11_tries [.ref 2, .int (iI ((h : Nat) : Int))] M (fun v M2 => v = some (.int (iI (bH X.1 (-2) X.2 h).1)) ∧ CF M2 19 X ix ∧ ∃ a2, M2 = pJ M 19 12 a2) := by
  refine ct_in (d := (d + 3)) kX11_tries rfl (by decide) (Nat.le_of_ble_eq_true rfl) (by decide) ?_
  show Go (Ct (d + 3)) _ yX11_tries cX11_tries (some .int) 0 0 0 [some (.ref 2), some (.int (iI ((h : Nat) : Int)))] [] M
  refine r_iload1 (pc2 := 1) dX11_tries_0 rfl ?_
  refine r_cs1 (pc2 := 4) dX11_tries_1 rfl sX11_155 (by decide) (c_X11_isHopper (d := d + 2) (h := ((h : Nat) : Int)) ⟨by omega, by omega⟩) ?_
  rintro _ M9 ⟨rfl, h9⟩
  rw [h9, if_pos (show 0 ≤ ((h : Nat) : Int) ∧ ((h : Nat) : Int) < 4 by omega)]
  show Go (Ct (d + 3)) _ yX11_tries cX11_tries (some .int) 0 0 4 [some (.ref 2), some (.int (iI ((h : Nat) : Int)))] [.int (iI 1)] M
  refine r_ifne (tgt := 15) (pc2 := 7) dX11_tries_4 rfl (by decide) ⟨by omega, by omega⟩ (fun _ => ?_) (fun h9 => absurd h9 (by decide))
  refine r_aload0 (pc2 := 16) dX11_tries_15 rfl ?_
  refine r_getR (pc2 := 19) dX11_tries_16 rfl fX11_28 (hK_2 hS) (hR_2_2 hS) ?_
  refine r_aload0 (pc2 := 20) dX11_tries_19 rfl ?_
  refine r_getR (pc2 := 23) dX11_tries_20 rfl fX11_28 (hK_2 hS) (hR_2_2 hS) ?_
  refine r_getJ (z := (M.2.2 19 11)) (pc2 := 26) dX11_tries_23 rfl fX11_238 (hK_19 hS) rfl ?_
  refine r_iload1 (pc2 := 27) dX11_tries_26 rfl ?_
  refine r_lconst (pc2 := 28) dX11_tries_27 rfl ?_
  refine r_cv3 (pc2 := 31) dX11_tries_28 rfl vX11_242 (hK_19 hS) (by decide) (CS_drop (d := d) (st := -2) (sh := X.2) hC.1 hS isB_19 hD hh hk hC.2.1 (stk_0 (by omega))) ?_
  rintro _ M1 ⟨rfl, a2, h1, e1⟩
  show Go (Ct (d + 3)) _ yX11_tries cX11_tries (some .int) 0 0 31 [some (.ref 2), some (.int (iI ((h : Nat) : Int)))] [.int (iI (bH X.1 (-2) X.2 h).1)] M1
  refine r_ireti dX11_tries_31 rfl ?_
  refine ⟨rfl, ?_, a2, h1⟩
  obtain ⟨c1, c2, c3, c4, c5⟩ := hC
  rw [h1]
  exact ⟨c1.of (fun k k1 k2 => ⟨rfl, pJ_ne (by omega)⟩), by rw [pJ_nk (by decide)]; exact c2, c3, c4, c5⟩
set_option maxHeartbeats 4000000 in
theorem lp_X0_leverCount {d : Nat} {Q : pQ} {f : Nat → Int} {M : pM} (hS : sOk M.1) (hv : ∀ q, q < 13 → M.2.1 25 q = f q ∧ -1 ≤ f q ∧ f q < 4) (hQ : Q (some (.int (iI ((lvc f 13 : Nat) : Int)))) M) :
    ∀ (m q : Nat), q + m = 13 → Go (Ct d) Q yX0_leverCount cX0_leverCount (some .int) 0 0 4 [some (.ref 19), some (.int (iI ((lvc f q : Nat) : Int))), some (.int (iI ((q : Nat) : Int)))] [] M := by
  intro m
  induction m with
  | zero =>
    intro q hm
    obtain rfl : q = 13 := by omega
    refine r_iload2 (pc2 := 5) dX0_leverCount_4 rfl ?_
    refine r_bipush (pc2 := 7) dX0_leverCount_5 rfl (by decide) (by decide) ?_
    refine r_icge (tgt := 34) (pc2 := 10) dX0_leverCount_7 rfl (by decide) ⟨by omega, by omega⟩ ⟨by omega, by omega⟩ (fun b_7 => ?_) (fun b_7 => ?_)
    · refine r_iload1 (pc2 := 35) dX0_leverCount_34 rfl ?_
      refine r_ireti dX0_leverCount_35 rfl ?_
      exact hQ
    · exact absurd b_7 (by omega)
  | succ m ih =>
    intro q hm
    have h1 := hv q (by omega)
    have h0 : lvc f q ≤ q := lvc_le (lv := f) q
    refine r_iload2 (pc2 := 5) dX0_leverCount_4 rfl ?_
    refine r_bipush (pc2 := 7) dX0_leverCount_5 rfl (by decide) (by decide) ?_
    refine r_icge (tgt := 34) (pc2 := 10) dX0_leverCount_7 rfl (by decide) ⟨by omega, by omega⟩ ⟨by omega, by omega⟩ (fun b_7 => ?_) (fun b_7 => ?_)
    · refine r_iload1 (pc2 := 35) dX0_leverCount_34 rfl ?_
      refine r_ireti dX0_leverCount_35 rfl ?_
      exact absurd b_7 (by omega)
    · refine r_iload1 (pc2 := 11) dX0_leverCount_10 rfl ?_
      refine r_aload0 (pc2 := 12) dX0_leverCount_11 rfl ?_
      refine r_getR (pc2 := 15) dX0_leverCount_12 rfl fX0_28 (hK_19 hS) (hR_19_5 hS) ?_
      refine r_iload2 (pc2 := 16) dX0_leverCount_15 rfl ?_
      refine r_iald (z := (f q)) (pc2 := 17) dX0_leverCount_16 rfl (hK_25 hS) q rfl (by omega) h1.1 ?_
      refine r_iconst (pc2 := 18) dX0_leverCount_17 rfl ?_
      refine r_icne (tgt := 25) (pc2 := 21) dX0_leverCount_18 rfl (by decide) ⟨by omega, by omega⟩ ⟨by omega, by omega⟩ (fun b_18 => ?_) (fun b_18 => ?_)
      · refine r_iconst (pc2 := 26) dX0_leverCount_25 rfl ?_
        refine r_iadd (c := ((lvc f q + 1 : Nat) : Int)) (pc2 := 27) dX0_leverCount_26 rfl (by omega) ?_
        refine r_istore1 (pc2 := 28) dX0_leverCount_27 rfl rfl ?_
        refine r_iinc2 (z := ((q + 1 : Nat) : Int)) (pc2 := 31) dX0_leverCount_28 rfl (by omega) rfl ?_
        refine r_goto (tgt := 4) dX0_leverCount_31 (by decide) ?_
        have e9 : lvc f (q + 1) = lvc f q + 1 := by rw [lvc, if_neg (by omega)]
        have h9 := ih (q + 1) (by omega)
        rw [e9] at h9
        exact h9
      · refine r_iconst (pc2 := 22) dX0_leverCount_21 rfl ?_
        refine r_goto (tgt := 26) dX0_leverCount_22 (by decide) ?_
        refine r_iadd (c := ((lvc f q + 0 : Nat) : Int)) (pc2 := 27) dX0_leverCount_26 rfl (by omega) ?_
        refine r_istore1 (pc2 := 28) dX0_leverCount_27 rfl rfl ?_
        refine r_iinc2 (z := ((q + 1 : Nat) : Int)) (pc2 := 31) dX0_leverCount_28 rfl (by omega) rfl ?_
        refine r_goto (tgt := 4) dX0_leverCount_31 (by decide) ?_
        have e9 : lvc f (q + 1) = lvc f q + 0 := by rw [lvc, if_pos (by omega)]; rfl
        have h9 := ih (q + 1) (by omega)
        rw [e9] at h9
        exact h9
set_option maxHeartbeats 4000000 in
theorem c_X0_leverCount {d : Nat} {M : pM} {f : Nat → Int} (hS : sOk M.1) (hv : ∀ q, q < 13 → M.2.1 25 q = f q ∧ -1 ≤ f q ∧ f q < 4) : Ct (d + 1) 0 0 yX0_leverCount [.ref 19] M (fun v M2 => v = some (.int (iI ((lvc f 13 : Nat) : Int))) ∧ M2 = M) := by
  refine ct_in (d := d) kX0_leverCount rfl (by decide) (Nat.le_of_ble_eq_true rfl) (by decide) ?_
  show Go (Ct d) _ yX0_leverCount cX0_leverCount (some .int) 0 0 0 [some (.ref 19), none, none] [] M
  refine r_iconst (pc2 := 1) dX0_leverCount_0 rfl ?_
  refine r_istore1 (pc2 := 2) dX0_leverCount_1 rfl rfl ?_
  refine r_iconst (pc2 := 3) dX0_leverCount_2 rfl ?_
  refine r_istore2 (pc2 := 4) dX0_leverCount_3 rfl rfl ?_
  exact lp_X0_leverCount (d := d) hS hv ⟨rfl, rfl⟩ 13 0 (by omega)
set_option maxHeartbeats 4000000 in
theorem lp_X12_levers {d : Nat} {Q : pQ} {f : Nat → Int} {M : pM} (hS : sOk M.1) (hv : ∀ q, q < 13 → M.2.1 331 q = f q ∧ -1 ≤ f q ∧ f q < 4) (hQ : Q (some (.int (iI ((lvc f 13 : Nat) : Int)))) M) :
    ∀ (m q : Nat), q + m = 13 → Go (Ct d) Q yX12_levers cX12_levers (some .int) 0 0 4 [some (.ref 317), some (.int (iI ((lvc f q : Nat) : Int))), some (.int (iI ((q : Nat) : Int)))] [] M := by
  intro m
  induction m with
  | zero =>
    intro q hm
    obtain rfl : q = 13 := by omega
    refine r_iload2 (pc2 := 5) dX12_levers_4 rfl ?_
    refine r_bipush (pc2 := 7) dX12_levers_5 rfl (by decide) (by decide) ?_
    refine r_icge (tgt := 33) (pc2 := 10) dX12_levers_7 rfl (by decide) ⟨by omega, by omega⟩ ⟨by omega, by omega⟩ (fun b_7 => ?_) (fun b_7 => ?_)
    · refine r_iload1 (pc2 := 34) dX12_levers_33 rfl ?_
      refine r_ireti dX12_levers_34 rfl ?_
      exact hQ
    · exact absurd b_7 (by omega)
  | succ m ih =>
    intro q hm
    have h1 := hv q (by omega)
    have h0 : lvc f q ≤ q := lvc_le (lv := f) q
    refine r_iload2 (pc2 := 5) dX12_levers_4 rfl ?_
    refine r_bipush (pc2 := 7) dX12_levers_5 rfl (by decide) (by decide) ?_
    refine r_icge (tgt := 33) (pc2 := 10) dX12_levers_7 rfl (by decide) ⟨by omega, by omega⟩ ⟨by omega, by omega⟩ (fun b_7 => ?_) (fun b_7 => ?_)
    · refine r_iload1 (pc2 := 34) dX12_levers_33 rfl ?_
      refine r_ireti dX12_levers_34 rfl ?_
      exact absurd b_7 (by omega)
    · refine r_iload1 (pc2 := 11) dX12_levers_10 rfl ?_
      refine r_aload0 (pc2 := 12) dX12_levers_11 rfl ?_
      refine r_getR (pc2 := 15) dX12_levers_12 rfl fX12_95 (hK_317 hS) (hR_317_20 hS) ?_
      refine r_iload2 (pc2 := 16) dX12_levers_15 rfl ?_
      refine r_iald (z := (f q)) (pc2 := 17) dX12_levers_16 rfl (hK_331 hS) q rfl (by omega) h1.1 ?_
      refine r_iflt (tgt := 24) (pc2 := 20) dX12_levers_17 rfl (by decide) ⟨by omega, by omega⟩ (fun b_17 => ?_) (fun b_17 => ?_)
      · refine r_iconst (pc2 := 25) dX12_levers_24 rfl ?_
        refine r_iadd (c := ((lvc f q + 0 : Nat) : Int)) (pc2 := 26) dX12_levers_25 rfl (by omega) ?_
        refine r_istore1 (pc2 := 27) dX12_levers_26 rfl rfl ?_
        refine r_iinc2 (z := ((q + 1 : Nat) : Int)) (pc2 := 30) dX12_levers_27 rfl (by omega) rfl ?_
        refine r_goto (tgt := 4) dX12_levers_30 (by decide) ?_
        have e9 : lvc f (q + 1) = lvc f q + 0 := by rw [lvc, if_pos (by omega)]; rfl
        have h9 := ih (q + 1) (by omega)
        rw [e9] at h9
        exact h9
      · refine r_iconst (pc2 := 21) dX12_levers_20 rfl ?_
        refine r_goto (tgt := 25) dX12_levers_21 (by decide) ?_
        refine r_iadd (c := ((lvc f q + 1 : Nat) : Int)) (pc2 := 26) dX12_levers_25 rfl (by omega) ?_
        refine r_istore1 (pc2 := 27) dX12_levers_26 rfl rfl ?_
        refine r_iinc2 (z := ((q + 1 : Nat) : Int)) (pc2 := 30) dX12_levers_27 rfl (by omega) rfl ?_
        refine r_goto (tgt := 4) dX12_levers_30 (by decide) ?_
        have e9 : lvc f (q + 1) = lvc f q + 1 := by rw [lvc, if_neg (by omega)]
        have h9 := ih (q + 1) (by omega)
        rw [e9] at h9
        exact h9
set_option maxHeartbeats 4000000 in
theorem c_X12_levers {d : Nat} {M : pM} {f : Nat → Int} (hS : sOk M.1) (hv : ∀ q, q < 13 → M.2.1 331 q = f q ∧ -1 ≤ f q ∧ f q < 4) : Ct (d + 1) 0 0 yX12_levers [.ref 317] M (fun v M2 => v = some (.int (iI ((lvc f 13 : Nat) : Int))) ∧ M2 = M) := by
  refine ct_in (d := d) kX12_levers rfl (by decide) (Nat.le_of_ble_eq_true rfl) (by decide) ?_
  show Go (Ct d) _ yX12_levers cX12_levers (some .int) 0 0 0 [some (.ref 317), none, none] [] M
  refine r_iconst (pc2 := 1) dX12_levers_0 rfl ?_
  refine r_istore1 (pc2 := 2) dX12_levers_1 rfl rfl ?_
  refine r_iconst (pc2 := 3) dX12_levers_2 rfl ?_
  refine r_istore2 (pc2 := 4) dX12_levers_3 rfl rfl ?_
  exact lp_X12_levers (d := d) hS hv ⟨rfl, rfl⟩ 13 0 (by omega)
set_option maxHeartbeats 4000000 in
theorem lp_X12_pieces {d : Nat} {Q : pQ} {f : Nat → Int} {M : pM} (hS : sOk M.1) (hv : ∀ q, q < 156 → M.2.1 328 q = f q ∧ 0 ≤ f q ∧ f q ≤ 9) (hQ : Q (some (.int (iI ((pcc f 156 : Nat) : Int)))) M) :
    ∀ (m q : Nat), q + m = 156 → Go (Ct d) Q yX12_pieces cX12_pieces (some .int) 0 0 4 [some (.ref 317), some (.int (iI ((pcc f q : Nat) : Int))), some (.int (iI ((q : Nat) : Int)))] [] M := by
  intro m
  induction m with
  | zero =>
    intro q hm
    obtain rfl : q = 156 := by omega
    refine r_iload2 (pc2 := 5) dX12_pieces_4 rfl ?_
    refine r_sipush (pc2 := 8) dX12_pieces_5 rfl (by decide) (by decide) ?_
    refine r_icge (tgt := 34) (pc2 := 11) dX12_pieces_8 rfl (by decide) ⟨by omega, by omega⟩ ⟨by omega, by omega⟩ (fun b_8 => ?_) (fun b_8 => ?_)
    · refine r_iload1 (pc2 := 35) dX12_pieces_34 rfl ?_
      refine r_ireti dX12_pieces_35 rfl ?_
      exact hQ
    · exact absurd b_8 (by omega)
  | succ m ih =>
    intro q hm
    have h1 := hv q (by omega)
    have h0 : pcc f q ≤ q := pcc_le (pc := f) q
    refine r_iload2 (pc2 := 5) dX12_pieces_4 rfl ?_
    refine r_sipush (pc2 := 8) dX12_pieces_5 rfl (by decide) (by decide) ?_
    refine r_icge (tgt := 34) (pc2 := 11) dX12_pieces_8 rfl (by decide) ⟨by omega, by omega⟩ ⟨by omega, by omega⟩ (fun b_8 => ?_) (fun b_8 => ?_)
    · refine r_iload1 (pc2 := 35) dX12_pieces_34 rfl ?_
      refine r_ireti dX12_pieces_35 rfl ?_
      exact absurd b_8 (by omega)
    · refine r_iload1 (pc2 := 12) dX12_pieces_11 rfl ?_
      refine r_aload0 (pc2 := 13) dX12_pieces_12 rfl ?_
      refine r_getR (pc2 := 16) dX12_pieces_13 rfl fX12_86 (hK_317 hS) (hR_317_17 hS) ?_
      refine r_iload2 (pc2 := 17) dX12_pieces_16 rfl ?_
      refine r_iald (z := (f q)) (pc2 := 18) dX12_pieces_17 rfl (hK_328 hS) q rfl (by omega) h1.1 ?_
      refine r_ifle (tgt := 25) (pc2 := 21) dX12_pieces_18 rfl (by decide) ⟨by omega, by omega⟩ (fun b_18 => ?_) (fun b_18 => ?_)
      · refine r_iconst (pc2 := 26) dX12_pieces_25 rfl ?_
        refine r_iadd (c := ((pcc f q + 0 : Nat) : Int)) (pc2 := 27) dX12_pieces_26 rfl (by omega) ?_
        refine r_istore1 (pc2 := 28) dX12_pieces_27 rfl rfl ?_
        refine r_iinc2 (z := ((q + 1 : Nat) : Int)) (pc2 := 31) dX12_pieces_28 rfl (by omega) rfl ?_
        refine r_goto (tgt := 4) dX12_pieces_31 (by decide) ?_
        have e9 : pcc f (q + 1) = pcc f q + 0 := by rw [pcc, if_pos (by omega)]; rfl
        have h9 := ih (q + 1) (by omega)
        rw [e9] at h9
        exact h9
      · refine r_iconst (pc2 := 22) dX12_pieces_21 rfl ?_
        refine r_goto (tgt := 26) dX12_pieces_22 (by decide) ?_
        refine r_iadd (c := ((pcc f q + 1 : Nat) : Int)) (pc2 := 27) dX12_pieces_26 rfl (by omega) ?_
        refine r_istore1 (pc2 := 28) dX12_pieces_27 rfl rfl ?_
        refine r_iinc2 (z := ((q + 1 : Nat) : Int)) (pc2 := 31) dX12_pieces_28 rfl (by omega) rfl ?_
        refine r_goto (tgt := 4) dX12_pieces_31 (by decide) ?_
        have e9 : pcc f (q + 1) = pcc f q + 1 := by rw [pcc, if_neg (by omega)]
        have h9 := ih (q + 1) (by omega)
        rw [e9] at h9
        exact h9
set_option maxHeartbeats 4000000 in
theorem c_X12_pieces {d : Nat} {M : pM} {f : Nat → Int} (hS : sOk M.1) (hv : ∀ q, q < 156 → M.2.1 328 q = f q ∧ 0 ≤ f q ∧ f q ≤ 9) : Ct (d + 1) 0 0 yX12_pieces [.ref 317] M (fun v M2 => v = some (.int (iI ((pcc f 156 : Nat) : Int))) ∧ M2 = M) := by
  refine ct_in (d := d) kX12_pieces rfl (by decide) (Nat.le_of_ble_eq_true rfl) (by decide) ?_
  show Go (Ct d) _ yX12_pieces cX12_pieces (some .int) 0 0 0 [some (.ref 317), none, none] [] M
  refine r_iconst (pc2 := 1) dX12_pieces_0 rfl ?_
  refine r_istore1 (pc2 := 2) dX12_pieces_1 rfl rfl ?_
  refine r_iconst (pc2 := 3) dX12_pieces_2 rfl ?_
  refine r_istore2 (pc2 := 4) dX12_pieces_3 rfl rfl ?_
  exact lp_X12_pieces (d := d) hS hv ⟨rfl, rfl⟩ 156 0 (by omega)
