/-! test: the model -/
theorem c_X12_alikeBy2 {d : Nat} {M : pM} {z : Int} {n : Nat} {e : Nat → Nat → Int} (hS : sOk M.1) (hh : 0 ≤ z ∧ z < 4) (hn : M.2.1 317 51 = (n : Int)) (hn2 : n ≤ 157) (he : ∀ h, h < 4 → ∀ k, k < n → M.2.1 350 (4 * k + h) = e h k ∧ 0 ≤ e h k ∧ e h k < 1024) : Ct (d + 1) 0 0 yX12_alikeBy [.ref 317, .int (iI z)] M (fun v M2 => v = some (.int (iI ((mxF (e z.toNat) n : Nat) : Int))) ∧ M2 = M) := by
  obtain ⟨h, eh⟩ : ∃ h : Nat, z = (h : Int) := ⟨z.toNat, by omega⟩
  subst eh
  rw [Int.toNat_natCast]
  exact c_X12_alikeBy hS (by omega) hn hn2 (he h (by omega))
set_option maxHeartbeats 4000000 in
theorem lp_X12_test {d : Nat} {Q : pQ} {M : pM} {n : Nat} {z : Int} {e : Nat → Nat → Int} (hS : sOk M.1) (hn : M.2.1 317 51 = (n : Int)) (hn2 : n ≤ 157) (hn0 : 0 < n) (he : ∀ h, h < 4 → ∀ k, k < n → M.2.1 350 (4 * k + h) = e h k ∧ 0 ≤ e h k ∧ e h k < 1024) (hQ : Q (some (.int (iI (bst (fun x => mxF (e x) n) 4)))) M) :
    ∀ (m h : Nat) (y : Int), h + m = 4 → y = bst (fun x => mxF (e x) n) h → Go (Ct (d + 1)) Q yX12_test cX12_test (some .int) 0 0 32 [some (.ref 317), some (.int (iI z)), some (.int (iI y)), some (.int (iI ((h : Nat) : Int)))] [] M := by
  intro m
  induction m with
  | zero =>
    intro h y hm hy
    obtain rfl : h = 4 := by omega
    refine r_iload3 (pc2 := 33) dX12_test_32 rfl ?_
    refine r_iconst (pc2 := 34) dX12_test_33 rfl ?_
    refine r_icge (tgt := 73) (pc2 := 37) dX12_test_34 rfl (by decide) ⟨by omega, by omega⟩ ⟨by omega, by omega⟩ (fun _ => ?_) (fun h9 => absurd h9 (by decide))
    refine r_iload2 (pc2 := 74) dX12_test_73 rfl ?_
    refine r_ireti dX12_test_74 rfl ?_
    rw [hy]; exact hQ
  | succ m ih =>
    intro h y hm hy
    have hb := bst_r (mx := fun x => mxF (e x) n) h
    have hbn : bst (fun x => mxF (e x) n) (h + 1) = if y = -1 ∨ mxF (e h) n < mxF (e y.toNat) n then (h : Int) else y := by rw [bst, ← hy]
    rw [← hy] at hb
    have hm1 : mxF (e h) n ≤ n := mxF_le
    have hm2 : mxF (e y.toNat) n ≤ n := mxF_le
    refine r_iload3 (pc2 := 33) dX12_test_32 rfl ?_
    refine r_iconst (pc2 := 34) dX12_test_33 rfl ?_
    refine r_icge (tgt := 73) (pc2 := 37) dX12_test_34 rfl (by decide) ⟨by omega, by omega⟩ ⟨by omega, by omega⟩ (fun b_34 => ?_) (fun b_34 => ?_)
    · refine r_iload2 (pc2 := 74) dX12_test_73 rfl ?_
      refine r_ireti dX12_test_74 rfl ?_
      exact absurd b_34 (by omega)
    · refine r_aload0 (pc2 := 38) dX12_test_37 rfl ?_
      refine r_getI (z := ((n : Nat) : Int)) (pc2 := 41) dX12_test_38 rfl (Or.inl fX12_397) (hK_317 hS) hn ?_
      refine r_ifle (tgt := 73) (pc2 := 44) dX12_test_41 rfl (by decide) ⟨by omega, by omega⟩ (fun b_41 => ?_) (fun b_41 => ?_)
      · refine r_iload2 (pc2 := 74) dX12_test_73 rfl ?_
        refine r_ireti dX12_test_74 rfl ?_
        exact absurd b_41 (by omega)
      · refine r_iload2 (pc2 := 45) dX12_test_44 rfl ?_
        refine r_iflt (tgt := 61) (pc2 := 48) dX12_test_45 rfl (by decide) ⟨by omega, by omega⟩ (fun b_45 => ?_) (fun b_45 => ?_)
        · refine r_iload3 (pc2 := 62) dX12_test_61 rfl ?_
          refine r_goto (tgt := 66) dX12_test_62 (by decide) ?_
          refine r_istore2 (pc2 := 67) dX12_test_66 rfl rfl ?_
          refine r_iinc3 (z := ((h + 1 : Nat) : Int)) (pc2 := 70) dX12_test_67 rfl (by omega) rfl ?_
          refine r_goto (tgt := 32) dX12_test_70 (by decide) ?_
          exact ih (h + 1) _ (by omega) (by rw [hbn, if_pos (by omega)])
        · refine r_aload0 (pc2 := 49) dX12_test_48 rfl ?_
          refine r_iload3 (pc2 := 50) dX12_test_49 rfl ?_
          refine r_cv1 (pc2 := 53) dX12_test_50 rfl vX12_405 (hK_317 hS) (by decide) (c_X12_alikeBy2 (d := d) (z := ((h : Nat) : Int)) (e := e) hS ⟨by omega, by omega⟩ hn hn2 he) ?_
          rintro _ M9 ⟨rfl, h9⟩
          rw [h9, Int.toNat_natCast]
          skip
          refine r_aload0 (pc2 := 54) dX12_test_53 rfl ?_
          refine r_iload2 (pc2 := 55) dX12_test_54 rfl ?_
          refine r_cv1 (pc2 := 58) dX12_test_55 rfl vX12_405 (hK_317 hS) (Nat.le_of_ble_eq_true rfl) (c_X12_alikeBy2 (d := d) (z := y) (e := e) hS ⟨by omega, by omega⟩ hn hn2 he) ?_
          rintro _ M9 ⟨rfl, h9⟩
          rw [h9]
          show Go (Ct (d + 1)) _ yX12_test cX12_test (some .int) 0 0 58 [some (.ref 317), some (.int (iI z)), some (.int (iI y)), some (.int (iI ((h : Nat) : Int)))] [.int (iI ((mxF (e y.toNat) n : Nat) : Int)), .int (iI ((mxF (e h) n : Nat) : Int))] M
          refine r_icge (tgt := 65) (pc2 := 61) dX12_test_58 rfl (by decide) ⟨by omega, by omega⟩ ⟨by omega, by omega⟩ (fun b_58 => ?_) (fun b_58 => ?_)
          · refine r_iload2 (pc2 := 66) dX12_test_65 rfl ?_
            refine r_istore2 (pc2 := 67) dX12_test_66 rfl rfl ?_
            refine r_iinc3 (z := ((h + 1 : Nat) : Int)) (pc2 := 70) dX12_test_67 rfl (by omega) rfl ?_
            refine r_goto (tgt := 32) dX12_test_70 (by decide) ?_
            exact ih (h + 1) _ (by omega) (by rw [hbn, if_neg (by omega)])
          · refine r_iload3 (pc2 := 62) dX12_test_61 rfl ?_
            refine r_goto (tgt := 66) dX12_test_62 (by decide) ?_
            refine r_istore2 (pc2 := 67) dX12_test_66 rfl rfl ?_
            refine r_iinc3 (z := ((h + 1 : Nat) : Int)) (pc2 := 70) dX12_test_67 rfl (by omega) rfl ?_
            refine r_goto (tgt := 32) dX12_test_70 (by decide) ?_
            exact ih (h + 1) _ (by omega) (by rw [hbn, if_pos (by omega)])
set_option maxHeartbeats 4000000 in
theorem c_X12_test {d : Nat} {M : pM} {z : Int} {lf : Nat → Int} {B : Nat → bS} {n : Nat} {ho : Nat → Nat} {hw : Nat → Int} (hS : sOk M.1) (hzr : inR z) (hl : ∀ s, s < 4 → M.2.1 343 s = lf s ∧ 0 ≤ lf s ∧ lf s ≤ 1) (hB : MB M B) (hob : ∀ s, s < 4 → lf s = 1 → bOk (B (1 + s)).1 ∧ bK (B (1 + s)).1 (B (1 + s)).2) (hg : sgM M n ho hw) (hh : ∀ i, ho i < 4) : Ct (d + 6) 0 0 yX12_test [.ref 317, .int (iI z)] M (fun v M2 => (¬ ldP lf z ∧ v = some (.int (iI (-1))) ∧ M2 = pI M 317 0 0) ∨ ldP lf z ∧ v = some (.int (iI (sBst (B (1 + z.toNat)).1 (sS9 (B (1 + z.toNat)) ho hw n)))) ∧ ∃ M1, (fr [317, 335, 336] (pI M 317 0 0) M1 ∧ ∀ j, j ≠ 51 → M1.2.1 317 j = (pI M 317 0 0).2.1 317 j) ∧ frV M1 M2) := by
  refine ct_in (d := (d + 5)) kX12_test rfl (by decide) (Nat.le_of_ble_eq_true rfl) (by decide) ?_
  show Go (Ct (d + 5)) _ yX12_test cX12_test (some .int) 0 0 0 [some (.ref 317), some (.int (iI z)), none, none] [] M
  have hzr2 := hzr
  unfold inR at hzr2
  have hg0 : sgM (pI M 317 0 0) n ho hw := ⟨by rw [pI_nk (by decide)]; exact hg.1, hg.2.1, fun j hj => by rw [pI_ne (by decide), pI_ne (by decide)]; exact hg.2.2 j hj⟩
  refine r_aload0 (pc2 := 1) dX12_test_0 rfl ?_
  refine r_iconst (pc2 := 2) dX12_test_1 rfl ?_
  refine r_putI (z := 0) (pc2 := 5) dX12_test_2 rfl fX12_1 (w12_0 _) (hK_317 hS) (by decide) ?_
  refine r_iload1 (pc2 := 6) dX12_test_5 rfl ?_
  refine r_cs1 (pc2 := 9) dX12_test_6 rfl sX12_357 (by decide) (c_X12_isShelf (d := d + 4) (h := z) hzr) ?_
  by_cases hz : 0 ≤ z ∧ z < 4
  · rintro _ M9 ⟨rfl, h9⟩
    rw [h9, show (if 0 ≤ z ∧ z < 4 then (1 : Int) else 0) = 1 from if_pos hz]
    have lz := hl z.toNat (by omega)
    show Go (Ct (d + 5)) _ yX12_test cX12_test (some .int) 0 0 9 [some (.ref 317), some (.int (iI z)), none, none] [.int (iI 1)] (pI M 317 0 0)
    refine r_ifeq (tgt := 21) (pc2 := 12) dX12_test_9 rfl (by decide) ⟨by omega, by omega⟩ (fun h9 => absurd h9 (by decide)) (fun _ => ?_)
    refine r_aload0 (pc2 := 13) dX12_test_12 rfl ?_
    refine r_getR (pc2 := 16) dX12_test_13 rfl fX12_131 (hK_317 hS) (hR_317_42 hS) ?_
    refine r_iload1 (pc2 := 17) dX12_test_16 rfl ?_
    refine r_zald (z := (lf z.toNat)) (pc2 := 18) dX12_test_17 rfl (hK_343 hS) (z).toNat (by omega) (by omega) lz.1 ?_
    refine r_ifne (tgt := 23) (pc2 := 21) dX12_test_18 rfl (by decide) ⟨by omega, by omega⟩ (fun b_18 => ?_) (fun b_18 => ?_)
    · refine r_aload0 (pc2 := 24) dX12_test_23 rfl ?_
      refine r_iload1 (pc2 := 25) dX12_test_24 rfl ?_
      obtain ⟨s, es⟩ : ∃ s : Nat, z = (s : Int) := ⟨z.toNat, by omega⟩
      have s4 : s < 4 := by omega
      have ets : z.toNat = s := by omega
      have l1 : lf s = 1 := by rw [← ets]; omega
      have ob := hob s s4 l1
      rw [show iI z = iI ((s : Nat) : Int) by rw [es]]
      refine r_cv1 (pc2 := 28) dX12_test_25 rfl vX12_402 (hK_317 hS) (by decide) (c_X12_findSuspects (d := d) (M := pI M 317 0 0) (s := s) (n := n) (ho := ho) (hw := hw) hS s4 (hB.z (1 + s) (by omega)) ob.1 ob.2 hg0 hh) ?_
      rintro _ M2 ⟨rfl, M1, f1, f2, q3⟩
      have hS2 := f2.1.ok (f1.1.ok (show sOk (pI M 317 0 0).1 from hS))
      obtain ⟨S, eS⟩ : ∃ S, S = sS9 (B (1 + z.toNat)) ho hw n := ⟨_, rfl⟩
      have q3 : ML (B (1 + s)).1 M2 S := by rw [eS, ets]; exact q3
      have hso : ∀ i, i < S.1 → sOkE (B (1 + s)).1 (S.2 i) := by rw [eS, ets]; exact fun j hj => susN_ok ob.1 hh ob.2 156 j hj
      have hle : S.1 ≤ 17 := by have h9 := susN_le (D := (B (1 + s)).1) (ho := ho) (hw := hw) (n := n) (s := (B (1 + s)).2) 156; have h8 := ob.1.2.2; rw [eS, ets]; unfold sS9; omega
      rw [show iI ((s : Nat) : Int) = iI z by rw [es]]
      show Go (Ct (d + 5)) _ yX12_test cX12_test (some .int) 0 0 28 [some (.ref 317), some (.int (iI z)), none, none] [] M2
      refine r_iconst (pc2 := 29) dX12_test_28 rfl ?_
      refine r_istore2 (pc2 := 30) dX12_test_29 rfl rfl ?_
      refine r_iconst (pc2 := 31) dX12_test_30 rfl ?_
      refine r_istore3 (pc2 := 32) dX12_test_31 rfl rfl ?_
      by_cases u0 : S.1 = 0
      · have k51 : M2.2.1 317 51 = 0 := by rw [q3.1, u0]; rfl
        refine r_iload3 (pc2 := 33) dX12_test_32 rfl ?_
        refine r_iconst (pc2 := 34) dX12_test_33 rfl ?_
        refine r_icge (tgt := 73) (pc2 := 37) dX12_test_34 rfl (by decide) ⟨by omega, by omega⟩ ⟨by omega, by omega⟩ (fun h9 => absurd h9 (by decide)) (fun _ => ?_)
        refine r_aload0 (pc2 := 38) dX12_test_37 rfl ?_
        refine r_getI (z := 0) (pc2 := 41) dX12_test_38 rfl (Or.inl fX12_397) (hK_317 hS2) k51 ?_
        refine r_ifle (tgt := 73) (pc2 := 44) dX12_test_41 rfl (by decide) ⟨by omega, by omega⟩ (fun _ => ?_) (fun h9 => absurd h9 (by decide))
        refine r_iload2 (pc2 := 74) dX12_test_73 rfl ?_
        refine r_ireti dX12_test_74 rfl ?_
        refine Or.inr ⟨⟨hz, by omega⟩, ?_, M1, f1, f2⟩
        rw [← eS, ets, sBst, if_pos u0]
      · refine lp_X12_test (d := d + 4) (e := sEn (B (1 + s)).1 S) hS2 q3.1 (by omega) (by omega) (fun h hh4 k hk => ⟨(q3.2 k hk).2 h hh4, sEn_r ob.1 hh4 hso hk⟩) ?_ 4 0 (-1) (by omega) rfl
        refine Or.inr ⟨⟨hz, by omega⟩, ?_, M1, f1, f2⟩
        rw [← eS, ets, sBst, if_neg u0]
    · refine r_iconst (pc2 := 22) dX12_test_21 rfl ?_
      refine r_ireti dX12_test_22 rfl ?_
      exact Or.inl ⟨fun q => by have := q.2; omega, rfl, rfl⟩
  · rintro _ M9 ⟨rfl, h9⟩
    rw [h9, show (if 0 ≤ z ∧ z < 4 then (1 : Int) else 0) = 0 from if_neg hz]
    show Go (Ct (d + 5)) _ yX12_test cX12_test (some .int) 0 0 9 [some (.ref 317), some (.int (iI z)), none, none] [.int (iI 0)] (pI M 317 0 0)
    refine r_ifeq (tgt := 21) (pc2 := 12) dX12_test_9 rfl (by decide) ⟨by omega, by omega⟩ (fun _ => ?_) (fun h9 => absurd h9 (by decide))
    refine r_iconst (pc2 := 22) dX12_test_21 rfl ?_
    refine r_ireti dX12_test_22 rfl ?_
    exact Or.inl ⟨fun q => hz q.1, rfl, rfl⟩
