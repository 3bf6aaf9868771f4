/-! suspect: the model -/
noncomputable def sS9 (X : bS) (ho : Nat → Nat) (hw : Nat → Int) (n : Nat) : sS := susN X.1 ho hw n X.2 156
set_option maxHeartbeats 4000000 in
theorem c_X12_suspect {d : Nat} {M : pM} {z i : Int} {lf : Nat → Int} {B : Nat → bS} {n : Nat} {ho : Nat → Nat} {hw : Nat → Int} (hS : sOk M.1) (hzr : inR z) (hl : ∀ s, s < 4 → M.2.1 343 s = lf s ∧ 0 ≤ lf s ∧ lf s ≤ 1) (hB : MB M B) (hob : ∀ s, s < 4 → lf s = 1 → bOk (B (1 + s)).1 ∧ bK (B (1 + s)).1 (B (1 + s)).2) (hg : sgM M n ho hw) (hh : ∀ i, ho i < 4) (hir : inR i) : Ct (d + 6) 0 0 yX12_suspect [.ref 317, .int (iI z), .int (iI i)] M (fun v M2 => (¬ ldP lf z ∧ v = some (.int (iI (-1))) ∧ M2 = pI M 317 0 0) ∨ ldP lf z ∧ v = some (.int (iI (if 0 ≤ i ∧ i < (((sS9 (B (1 + z.toNat)) ho hw n).1 : Nat) : Int) then ((sS9 (B (1 + z.toNat)) ho hw n).2 i.toNat).1 else -1))) ∧ ∃ M1, (fr [317, 335, 336] (pI M 317 0 0) M1 ∧ ∀ j, j ≠ 51 → M1.2.1 317 j = (pI M 317 0 0).2.1 317 j) ∧ frV M1 M2) := by
  refine ct_in (d := (d + 5)) kX12_suspect rfl (by decide) (Nat.le_of_ble_eq_true rfl) (by decide) ?_
  show Go (Ct (d + 5)) _ yX12_suspect cX12_suspect (some .int) 0 0 0 [some (.ref 317), some (.int (iI z)), some (.int (iI i))] [] M
  have hzr2 := hzr
  unfold inR at hzr2 hir
  have hg0 : sgM (pI M 317 0 0) n ho hw := ⟨by rw [pI_nk (by decide)]; exact hg.1, hg.2.1, fun j hj => by rw [pI_ne (by decide), pI_ne (by decide)]; exact hg.2.2 j hj⟩
  refine r_aload0 (pc2 := 1) dX12_suspect_0 rfl ?_
  refine r_iconst (pc2 := 2) dX12_suspect_1 rfl ?_
  refine r_putI (z := 0) (pc2 := 5) dX12_suspect_2 rfl fX12_1 (w12_0 _) (hK_317 hS) (by decide) ?_
  refine r_iload1 (pc2 := 6) dX12_suspect_5 rfl ?_
  refine r_cs1 (pc2 := 9) dX12_suspect_6 rfl sX12_357 (by decide) (c_X12_isShelf (d := d + 4) (h := z) hzr) ?_
  by_cases hz : 0 ≤ z ∧ z < 4
  · rintro _ M9 ⟨rfl, h9⟩
    rw [h9, show (if 0 ≤ z ∧ z < 4 then (1 : Int) else 0) = 1 from if_pos hz]
    have lz := hl z.toNat (by omega)
    show Go (Ct (d + 5)) _ yX12_suspect cX12_suspect (some .int) 0 0 9 [some (.ref 317), some (.int (iI z)), some (.int (iI i))] [.int (iI 1)] (pI M 317 0 0)
    refine r_ifeq (tgt := 21) (pc2 := 12) dX12_suspect_9 rfl (by decide) ⟨by omega, by omega⟩ (fun h9 => absurd h9 (by decide)) (fun _ => ?_)
    refine r_aload0 (pc2 := 13) dX12_suspect_12 rfl ?_
    refine r_getR (pc2 := 16) dX12_suspect_13 rfl fX12_131 (hK_317 hS) (hR_317_42 hS) ?_
    refine r_iload1 (pc2 := 17) dX12_suspect_16 rfl ?_
    refine r_zald (z := (lf z.toNat)) (pc2 := 18) dX12_suspect_17 rfl (hK_343 hS) (z).toNat (by omega) (by omega) lz.1 ?_
    refine r_ifne (tgt := 23) (pc2 := 21) dX12_suspect_18 rfl (by decide) ⟨by omega, by omega⟩ (fun b_18 => ?_) (fun b_18 => ?_)
    · refine r_aload0 (pc2 := 24) dX12_suspect_23 rfl ?_
      refine r_iload1 (pc2 := 25) dX12_suspect_24 rfl ?_
      obtain ⟨s, es⟩ : ∃ s : Nat, z = (s : Int) := ⟨z.toNat, by omega⟩
      have s4 : s < 4 := by omega
      have ets : z.toNat = s := by omega
      have l1 : lf s = 1 := by rw [← ets]; omega
      have ob := hob s s4 l1
      rw [show iI z = iI ((s : Nat) : Int) by rw [es]]
      refine r_cv1 (pc2 := 28) dX12_suspect_25 rfl vX12_402 (hK_317 hS) (by decide) (c_X12_findSuspects (d := d) (M := pI M 317 0 0) (s := s) (n := n) (ho := ho) (hw := hw) hS s4 (hB.z (1 + s) (by omega)) ob.1 ob.2 hg0 hh) ?_
      rintro _ M2 ⟨rfl, M1, f1, f2, q3⟩
      have hS2 := f2.1.ok (f1.1.ok (show sOk (pI M 317 0 0).1 from hS))
      obtain ⟨S, eS⟩ : ∃ S, S = sS9 (B (1 + z.toNat)) ho hw n := ⟨_, rfl⟩
      have q3 : ML (B (1 + s)).1 M2 S := by rw [eS, ets]; exact q3
      have hle : S.1 ≤ 17 := by have h9 := susN_le (D := (B (1 + s)).1) (ho := ho) (hw := hw) (n := n) (s := (B (1 + s)).2) 156; have h8 := ob.1.2.2; rw [eS, ets]; unfold sS9; omega
      skip
      refine r_iload2 (pc2 := 29) dX12_suspect_28 rfl ?_
      refine r_iflt (tgt := 49) (pc2 := 32) dX12_suspect_29 rfl (by decide) ⟨by omega, by omega⟩ (fun b_29 => ?_) (fun b_29 => ?_)
      · refine r_iconst (pc2 := 50) dX12_suspect_49 rfl ?_
        refine r_ireti dX12_suspect_50 rfl ?_
        refine Or.inr ⟨⟨hz, by omega⟩, ?_, M1, f1, f2⟩
        rw [← eS, if_neg (by omega)]
      · refine r_iload2 (pc2 := 33) dX12_suspect_32 rfl ?_
        refine r_aload0 (pc2 := 34) dX12_suspect_33 rfl ?_
        refine r_getI (z := ((S.1 : Nat) : Int)) (pc2 := 37) dX12_suspect_34 rfl (Or.inl fX12_397) (hK_317 hS2) q3.1 ?_
        refine r_icge (tgt := 49) (pc2 := 40) dX12_suspect_37 rfl (by decide) ⟨by omega, by omega⟩ ⟨by omega, by omega⟩ (fun b_37 => ?_) (fun b_37 => ?_)
        · refine r_iconst (pc2 := 50) dX12_suspect_49 rfl ?_
          refine r_ireti dX12_suspect_50 rfl ?_
          refine Or.inr ⟨⟨hz, by omega⟩, ?_, M1, f1, f2⟩
          rw [← eS, if_neg (by omega)]
        · refine r_aload0 (pc2 := 41) dX12_suspect_40 rfl ?_
          refine r_getR (pc2 := 44) dX12_suspect_41 rfl fX12_150 (hK_317 hS2) (hR_317_52 hS2) ?_
          refine r_iload2 (pc2 := 45) dX12_suspect_44 rfl ?_
          refine r_iald (z := ((S.2 i.toNat).1)) (pc2 := 46) dX12_suspect_45 rfl (hK_349 hS2) (i).toNat (by omega) (by omega) (q3.2 i.toNat (by omega)).1 ?_
          refine r_goto (tgt := 50) dX12_suspect_46 (by decide) ?_
          refine r_ireti dX12_suspect_50 rfl ?_
          refine Or.inr ⟨⟨hz, by omega⟩, ?_, M1, f1, f2⟩
          rw [← eS, if_pos (by omega)]
    · refine r_iconst (pc2 := 22) dX12_suspect_21 rfl ?_
      refine r_ireti dX12_suspect_22 rfl ?_
      exact Or.inl ⟨fun q => by have := q.2; omega, rfl, rfl⟩
  · rintro _ M9 ⟨rfl, h9⟩
    rw [h9, show (if 0 ≤ z ∧ z < 4 then (1 : Int) else 0) = 0 from if_neg hz]
    show Go (Ct (d + 5)) _ yX12_suspect cX12_suspect (some .int) 0 0 9 [some (.ref 317), some (.int (iI z)), some (.int (iI i))] [.int (iI 0)] (pI M 317 0 0)
    refine r_ifeq (tgt := 21) (pc2 := 12) dX12_suspect_9 rfl (by decide) ⟨by omega, by omega⟩ (fun _ => ?_) (fun h9 => absurd h9 (by decide))
    refine r_iconst (pc2 := 22) dX12_suspect_21 rfl ?_
    refine r_ireti dX12_suspect_22 rfl ?_
    exact Or.inl ⟨fun q => hz q.1, rfl, rfl⟩
