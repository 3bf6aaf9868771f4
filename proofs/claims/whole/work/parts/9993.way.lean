/-! way and step, both sides -/
theorem wyF_r {D : bD} {W s : Nat → Int} : -1 ≤ (wyF D W s).1 ∧ (wyF D W s).1 ≤ 3000 := by
  by_cases h : wOk W D.1.1
  · by_cases h2 : wIs W s
    · rw [wyF_0 h h2]; exact ⟨by show (-1 : Int) ≤ 0; decide, by show (0 : Int) ≤ 3000; decide⟩
    · rw [wyF_s h h2]; exact bfs_r ⟨by decide, by decide⟩ _ _ _ _ _ _ _ (by decide) (by decide)
  · rw [wyF_no h]; exact ⟨by show (-1 : Int) ≤ -1; decide, by show (-1 : Int) ≤ 3000; decide⟩
def wyV (M : pM) (X : bS) (W : Nat → Int) : Prop := M.2.1 266 4 = 1 ∧ M.2.1 266 5 = (wyF X.1 W X.2).1 ∧ ∀ j : Nat, (j : Int) < (wyF X.1 W X.2).1 → M.2.1 269 j = (wyF X.1 W X.2).2 j
def CWy (M : pM) (X : bS) (W : Nat → Int) : Prop := M.2.1 266 4 = 0 ∨ wyV M X W
def frO (M M2 : pM) : Prop := fr [19, 256, 257, 258, 259, 260, 261, 262, 266, 269] M M2 ∧ (∀ j, j ≠ 4 → j ≠ 5 → M2.2.1 266 j = M.2.1 266 j) ∧ M2.2.1 19 = M.2.1 19 ∧ ∀ k, k ≠ 12 → M2.2.2 19 k = M.2.2 19 k
set_option maxHeartbeats 4000000 in
theorem c_X10_look {d : Nat} {M : pM} {n : Nat} {X : bS} {W : Nat → Int} {ix : Nat → Nat} (hS : sOk M.1) (hC : CF M 19 X ix) (hD : bOk X.1) (hk : bK X.1 X.2) (hSr : SNr M) (hn : M.2.1 266 3 = (n : Int)) (hW : WL n (M.2.1 267) (M.2.1 268) W) (hT : CWy M X W) : Ct (d + 5) 0 0 yX10_look [.ref 266, .ref 19, .ref 256] M (fun v M2 => v = none ∧ wyV M2 X W ∧ frO M M2 ∧ SNr M2) := by
  refine ct_in (d := (d + 4)) kX10_look rfl (by decide) (Nat.le_of_ble_eq_true rfl) (by decide) ?_
  show Go (Ct (d + 4)) _ yX10_look cX10_look none 0 0 0 [some (.ref 266), some (.ref 19), some (.ref 256)] [] M
  obtain ⟨k1, ek1⟩ : ∃ k, M.2.1 266 4 = k := ⟨_, rfl⟩
  have hk1 : k1 = 0 ∨ k1 = 1 := by rcases hT with e | e; omega; have := e.1; omega
  refine r_aload0 (pc2 := 1) dX10_look_0 rfl ?_
  refine r_getI (z := k1) (pc2 := 4) dX10_look_1 rfl (Or.inr fX10_41) (hK_266 hS) ek1 ?_
  refine r_ifne (tgt := 22) (pc2 := 7) dX10_look_4 rfl (by decide) ⟨by omega, by omega⟩ (fun b_4 => ?_) (fun b_4 => ?_)
  · refine r_ret dX10_look_22 rfl ?_
    rcases hT with e | hT
    · omega
    · exact ⟨rfl, hT, ⟨fr.rf, fun _ _ _ => rfl, rfl, fun _ _ => rfl⟩, hSr⟩
  · refine r_aload0 (pc2 := 8) dX10_look_7 rfl ?_
    refine r_iconst (pc2 := 9) dX10_look_8 rfl ?_
    refine r_putZ (z := 1) (pc2 := 12) dX10_look_9 rfl fX10_41 (w10_4 _) (hK_266 hS) (by decide) (by omega) ?_
    refine r_aload0 (pc2 := 13) dX10_look_12 rfl ?_
    refine r_aload0 (pc2 := 14) dX10_look_13 rfl ?_
    refine r_aload1 (pc2 := 15) dX10_look_14 rfl ?_
    refine r_aload2 (pc2 := 16) dX10_look_15 rfl ?_
    refine r_cv2 (pc2 := 19) dX10_look_16 rfl vX10_45 (hK_266 hS) (Nat.le_of_ble_eq_true rfl) (c_X10_search (d := d) (M := pI M 266 4 1) (n := n) (v := M.2.2 19 11) (W := W) (s := X.2) hS (hC.1.of (fun k k1 k2 => ⟨pI_ne (by omega), rfl⟩)) hD rfl hC.2.1 hk (by unfold SNr; rw [pI_ne (by decide), pI_ne (by decide)]; exact hSr) (by rw [pI_nk (by decide)]; exact hn) (by rw [pI_ne (by decide), pI_ne (by decide)]; exact hW)) ?_
    rintro _ M2 ⟨rfl, M3, f3, r3, f2, e2⟩
    have hS2 := f2.ok (f3.1.ok (show sOk (pI M 266 4 1).1 from hS))
    show Go (Ct (d + 4)) _ yX10_look cX10_look none 0 0 19 [some (.ref 266), some (.ref 19), some (.ref 256)] [.int (iI (wyF X.1 W X.2).1), .ref 266] M2
    refine r_putI (z := (wyF X.1 W X.2).1) (pc2 := 22) dX10_look_19 rfl fX10_49 (w10_5 _) (hK_266 hS2) (by decide) ?_
    refine r_ret dX10_look_22 rfl ?_
    have q := f3.2 19 (by decide)
    have m1 : ∀ k, M2.2.1 266 k = (pI M 266 4 1).2.1 266 k := fun k => by rw [f2.i (by decide), f3.1.i (by decide)]
    refine ⟨rfl, ⟨?_, pI_at, fun j hj => ?_⟩, ⟨?_, fun j j4 j5 => ?_, ?_, fun k hk9 => ?_⟩, ?_⟩
    · rw [pI_nk (by decide), m1, pI_at]
    · rw [pI_ne (by decide)]; exact e2 j hj
    · exact (((fr.rf.I (by decide)).tr (f3.1.mono (by decide))).tr (f2.mono (by decide))).I (by decide)
    · rw [pI_nk j5, m1, pI_nk j4]
    · rw [pI_ne (by decide), f2.i (by decide), q.1, pI_ne (by decide)]
    · show M2.2.2 19 k = _; rw [f2.j (by decide), q.2 k hk9]; rfl
    · unfold SNr; rw [pI_ne (by decide), pI_ne (by decide), f2.i (by decide), f2.i (by decide)]; exact r3
set_option maxHeartbeats 4000000 in
theorem c_X11_way {d : Nat} {M : pM} {n : Nat} {X : bS} {W : Nat → Int} {ix : Nat → Nat} (hS : sOk M.1) (hC : CF M 19 X ix) (hD : bOk X.1) (hk : bK X.1 X.2) (hSr : SNr M) (hn : M.2.1 266 3 = (n : Int)) (hW : WL n (M.2.1 267) (M.2.1 268) W) (hT : CWy M X W) : Ct (d + 6) 0 0 yX11_way [.ref 2] M (fun v M2 => v = some (.int (iI (wyF X.1 W X.2).1)) ∧ wyV M2 X W ∧ frO M M2 ∧ SNr M2) := by
  refine ct_in (d := (d + 5)) kX11_way rfl (by decide) (Nat.le_of_ble_eq_true rfl) (by decide) ?_
  show Go (Ct (d + 5)) _ yX11_way cX11_way (some .int) 0 0 0 [some (.ref 2)] [] M
  refine r_aload0 (pc2 := 1) dX11_way_0 rfl ?_
  refine r_getR (pc2 := 4) dX11_way_1 rfl fX11_87 (hK_2 hS) (hR_2_11 hS) ?_
  refine r_aload0 (pc2 := 5) dX11_way_4 rfl ?_
  refine r_getR (pc2 := 8) dX11_way_5 rfl fX11_28 (hK_2 hS) (hR_2_2 hS) ?_
  refine r_aload0 (pc2 := 9) dX11_way_8 rfl ?_
  refine r_getR (pc2 := 12) dX11_way_9 rfl fX11_66 (hK_2 hS) (hR_2_8 hS) ?_
  refine r_cv2 (pc2 := 15) dX11_way_12 rfl vX11_213 (hK_266 hS) (by decide) (c_X10_look (d := d) hS hC hD hk hSr hn hW hT) ?_
  rintro _ M1 ⟨rfl, q1, q2, q3⟩
  have hS1 := q2.1.ok hS
  have rR := wyF_r (D := X.1) (W := W) (s := X.2)
  show Go (Ct (d + 5)) _ yX11_way cX11_way (some .int) 0 0 15 [some (.ref 2)] [] M1
  refine r_aload0 (pc2 := 16) dX11_way_15 rfl ?_
  refine r_getR (pc2 := 19) dX11_way_16 rfl fX11_87 (hK_2 hS1) (hR_2_11 hS1) ?_
  refine r_getI (z := (wyF X.1 W X.2).1) (pc2 := 22) dX11_way_19 rfl (Or.inl fX11_216) (hK_266 hS1) q1.2.1 ?_
  refine r_ireti dX11_way_22 rfl ?_
  exact ⟨rfl, q1, q2, q3⟩
set_option maxHeartbeats 4000000 in
theorem c_X11_step {d : Nat} {M : pM} {i : Int} {n : Nat} {X : bS} {W : Nat → Int} {ix : Nat → Nat} (hS : sOk M.1) (hC : CF M 19 X ix) (hD : bOk X.1) (hk : bK X.1 X.2) (hSr : SNr M) (hn : M.2.1 266 3 = (n : Int)) (hW : WL n (M.2.1 267) (M.2.1 268) W) (hT : CWy M X W) (hir : inR i) : Ct (d + 6) 0 0 yX11_step [.ref 2, .int (iI i)] M (fun v M2 => v = some (.int (iI (if 0 ≤ i ∧ i < (wyF X.1 W X.2).1 then (wyF X.1 W X.2).2 i.toNat else -1))) ∧ wyV M2 X W ∧ frO M M2 ∧ SNr M2) := by
  refine ct_in (d := (d + 5)) kX11_step rfl (by decide) (Nat.le_of_ble_eq_true rfl) (by decide) ?_
  show Go (Ct (d + 5)) _ yX11_step cX11_step (some .int) 0 0 0 [some (.ref 2), some (.int (iI i))] [] M
  unfold inR at hir
  refine r_aload0 (pc2 := 1) dX11_step_0 rfl ?_
  refine r_getR (pc2 := 4) dX11_step_1 rfl fX11_87 (hK_2 hS) (hR_2_11 hS) ?_
  refine r_aload0 (pc2 := 5) dX11_step_4 rfl ?_
  refine r_getR (pc2 := 8) dX11_step_5 rfl fX11_28 (hK_2 hS) (hR_2_2 hS) ?_
  refine r_aload0 (pc2 := 9) dX11_step_8 rfl ?_
  refine r_getR (pc2 := 12) dX11_step_9 rfl fX11_66 (hK_2 hS) (hR_2_8 hS) ?_
  refine r_cv2 (pc2 := 15) dX11_step_12 rfl vX11_213 (hK_266 hS) (by decide) (c_X10_look (d := d) hS hC hD hk hSr hn hW hT) ?_
  rintro _ M1 ⟨rfl, q1, q2, q3⟩
  have hS1 := q2.1.ok hS
  have rR := wyF_r (D := X.1) (W := W) (s := X.2)
  show Go (Ct (d + 5)) _ yX11_step cX11_step (some .int) 0 0 15 [some (.ref 2), some (.int (iI i))] [] M1
  refine r_iload1 (pc2 := 16) dX11_step_15 rfl ?_
  refine r_iflt (tgt := 30) (pc2 := 19) dX11_step_16 rfl (by decide) ⟨by omega, by omega⟩ (fun b_16 => ?_) (fun b_16 => ?_)
  · refine r_iconst (pc2 := 31) dX11_step_30 rfl ?_
    refine r_goto (tgt := 43) dX11_step_31 (by decide) ?_
    refine r_ireti dX11_step_43 rfl ?_
    exact ⟨by rw [if_neg (by omega)], q1, q2, q3⟩
  · refine r_iload1 (pc2 := 20) dX11_step_19 rfl ?_
    refine r_aload0 (pc2 := 21) dX11_step_20 rfl ?_
    refine r_getR (pc2 := 24) dX11_step_21 rfl fX11_87 (hK_2 hS1) (hR_2_11 hS1) ?_
    refine r_getI (z := (wyF X.1 W X.2).1) (pc2 := 27) dX11_step_24 rfl (Or.inl fX11_216) (hK_266 hS1) q1.2.1 ?_
    refine r_iclt (tgt := 34) (pc2 := 30) dX11_step_27 rfl (by decide) ⟨by omega, by omega⟩ ⟨by omega, by omega⟩ (fun b_27 => ?_) (fun b_27 => ?_)
    · refine r_aload0 (pc2 := 35) dX11_step_34 rfl ?_
      refine r_getR (pc2 := 38) dX11_step_35 rfl fX11_87 (hK_2 hS1) (hR_2_11 hS1) ?_
      refine r_getR (pc2 := 41) dX11_step_38 rfl fX11_217 (hK_266 hS1) (hR_266_2 hS1) ?_
      refine r_iload1 (pc2 := 42) dX11_step_41 rfl ?_
      refine r_iald (z := ((wyF X.1 W X.2).2 i.toNat)) (pc2 := 43) dX11_step_42 rfl (hK_269 hS1) (i).toNat (by omega) (by omega) (q1.2.2 i.toNat (by omega)) ?_
      refine r_ireti dX11_step_43 rfl ?_
      exact ⟨by rw [if_pos (by omega)], q1, q2, q3⟩
    · refine r_iconst (pc2 := 31) dX11_step_30 rfl ?_
      refine r_goto (tgt := 43) dX11_step_31 (by decide) ?_
      refine r_ireti dX11_step_43 rfl ?_
      exact ⟨by rw [if_neg (by omega)], q1, q2, q3⟩
set_option maxHeartbeats 4000000 in
theorem c_X12_way {d : Nat} {M : pM} {n : Nat} {B : Nat → bS} {W : Nat → Int} (hS : sOk M.1) (hB : MB M B) (hD : bOk (B 0).1) (hk : bK (B 0).1 (B 0).2) (hn : M.2.1 317 45 = (n : Int)) (hW : WL n (M.2.1 345) (M.2.1 346) W) : Ct (d + 5) 0 0 yX12_way [.ref 317] M (fun v M2 => v = some (.int (iI (wyF (B 0).1 W (B 0).2).1)) ∧ frT (pI M 317 0 0) M2) := by
  refine ct_in (d := (d + 4)) kX12_way rfl (by decide) (Nat.le_of_ble_eq_true rfl) (by decide) ?_
  show Go (Ct (d + 4)) _ yX12_way cX12_way (some .int) 0 0 0 [some (.ref 317)] [] M
  refine r_aload0 (pc2 := 1) dX12_way_0 rfl ?_
  refine r_iconst (pc2 := 2) dX12_way_1 rfl ?_
  refine r_putI (z := 0) (pc2 := 5) dX12_way_2 rfl fX12_1 (w12_0 _) (hK_317 hS) (by decide) ?_
  refine r_aload0 (pc2 := 6) dX12_way_5 rfl ?_
  refine r_cv0 (pc2 := 9) dX12_way_6 rfl vX12_391 (hK_317 hS) (by decide) (c_X12_findWay (d := d) (M := pI M 317 0 0) (n := n) (W := W) hS (hB.z 0 (by omega)) hD hk (by rw [pI_nk (by decide)]; exact hn) (by rw [pI_ne (by decide), pI_ne (by decide)]; exact hW)) ?_
  rintro _ M1 ⟨rfl, q1, q2, q3⟩
  have hS1 := q1.1.ok (show sOk (pI M 317 0 0).1 from hS)
  have rR := wyF_r (D := (B 0).1) (W := W) (s := (B 0).2)
  show Go (Ct (d + 4)) _ yX12_way cX12_way (some .int) 0 0 9 [some (.ref 317)] [] M1
  refine r_aload0 (pc2 := 10) dX12_way_9 rfl ?_
  refine r_getI (z := (wyF (B 0).1 W (B 0).2).1) (pc2 := 13) dX12_way_10 rfl (Or.inl fX12_360) (hK_317 hS1) q2 ?_
  refine r_ireti dX12_way_13 rfl ?_
  exact ⟨rfl, q1⟩
set_option maxHeartbeats 4000000 in
theorem c_X12_step {d : Nat} {M : pM} {i : Int} {n : Nat} {B : Nat → bS} {W : Nat → Int} (hS : sOk M.1) (hB : MB M B) (hD : bOk (B 0).1) (hk : bK (B 0).1 (B 0).2) (hn : M.2.1 317 45 = (n : Int)) (hW : WL n (M.2.1 345) (M.2.1 346) W) (hir : inR i) : Ct (d + 5) 0 0 yX12_step [.ref 317, .int (iI i)] M (fun v M2 => v = some (.int (iI (if 0 ≤ i ∧ i < (wyF (B 0).1 W (B 0).2).1 then (wyF (B 0).1 W (B 0).2).2 i.toNat else -1))) ∧ frT (pI M 317 0 0) M2) := by
  refine ct_in (d := (d + 4)) kX12_step rfl (by decide) (Nat.le_of_ble_eq_true rfl) (by decide) ?_
  show Go (Ct (d + 4)) _ yX12_step cX12_step (some .int) 0 0 0 [some (.ref 317), some (.int (iI i))] [] M
  unfold inR at hir
  refine r_aload0 (pc2 := 1) dX12_step_0 rfl ?_
  refine r_iconst (pc2 := 2) dX12_step_1 rfl ?_
  refine r_putI (z := 0) (pc2 := 5) dX12_step_2 rfl fX12_1 (w12_0 _) (hK_317 hS) (by decide) ?_
  refine r_aload0 (pc2 := 6) dX12_step_5 rfl ?_
  refine r_cv0 (pc2 := 9) dX12_step_6 rfl vX12_391 (hK_317 hS) (by decide) (c_X12_findWay (d := d) (M := pI M 317 0 0) (n := n) (W := W) hS (hB.z 0 (by omega)) hD hk (by rw [pI_nk (by decide)]; exact hn) (by rw [pI_ne (by decide), pI_ne (by decide)]; exact hW)) ?_
  rintro _ M1 ⟨rfl, q1, q2, q3⟩
  have hS1 := q1.1.ok (show sOk (pI M 317 0 0).1 from hS)
  have rR := wyF_r (D := (B 0).1) (W := W) (s := (B 0).2)
  show Go (Ct (d + 4)) _ yX12_step cX12_step (some .int) 0 0 9 [some (.ref 317), some (.int (iI i))] [] M1
  refine r_iload1 (pc2 := 10) dX12_step_9 rfl ?_
  refine r_iflt (tgt := 30) (pc2 := 13) dX12_step_10 rfl (by decide) ⟨by omega, by omega⟩ (fun b_10 => ?_) (fun b_10 => ?_)
  · refine r_iconst (pc2 := 31) dX12_step_30 rfl ?_
    refine r_ireti dX12_step_31 rfl ?_
    exact ⟨by rw [if_neg (by omega)], q1⟩
  · refine r_iload1 (pc2 := 14) dX12_step_13 rfl ?_
    refine r_aload0 (pc2 := 15) dX12_step_14 rfl ?_
    refine r_getI (z := (wyF (B 0).1 W (B 0).2).1) (pc2 := 18) dX12_step_15 rfl (Or.inl fX12_360) (hK_317 hS1) q2 ?_
    refine r_icge (tgt := 30) (pc2 := 21) dX12_step_18 rfl (by decide) ⟨by omega, by omega⟩ ⟨by omega, by omega⟩ (fun b_18 => ?_) (fun b_18 => ?_)
    · refine r_iconst (pc2 := 31) dX12_step_30 rfl ?_
      refine r_ireti dX12_step_31 rfl ?_
      exact ⟨by rw [if_neg (by omega)], q1⟩
    · refine r_aload0 (pc2 := 22) dX12_step_21 rfl ?_
      refine r_getR (pc2 := 25) dX12_step_22 rfl fX12_135 (hK_317 hS1) (hR_317_43 hS1) ?_
      refine r_iload1 (pc2 := 26) dX12_step_25 rfl ?_
      refine r_iald (z := ((wyF (B 0).1 W (B 0).2).2 i.toNat)) (pc2 := 27) dX12_step_26 rfl (hK_344 hS1) (i).toNat (by omega) (by omega) (q3 i.toNat (by omega)) ?_
      refine r_goto (tgt := 31) dX12_step_27 (by decide) ?_
      refine r_ireti dX12_step_31 rfl ?_
      exact ⟨by rw [if_pos (by omega)], q1⟩
