/-! the model's traces: way 344, ways field 44 of 317, from 340, by 341 -/
theorem pI_pI {M : pM} {a k : Nat} {z z2 : Int} : pI (pI M a k z) a k z2 = pI M a k z2 := by
  unfold pI
  congr 2
  funext b
  show pU (pU M.2.1 a k z) a k z2 b = pU M.2.1 a k z2 b
  unfold pU
  split
  · rw [if_pos rfl, up_up]
  · rfl
/-- last < 0: none more -/
def tLen (P H : Nat → Int) (s : Nat) (last : Int) : Nat := (trc P H s (s : Int)).length + (if last < 0 then 0 else 1)
set_option maxHeartbeats 4000000 in
theorem lp_X12_tracesb {d : Nat} {Q : pQ} {n s T : Nat} {last : Int} {P H : Nat → Int} (M0 : pM) (hS : sOk M0.1) (hn : n ≤ 3000) (hs : s < n) (hP0 : P 0 = -1) (hP : ∀ i, 0 < i → i < n → 0 ≤ P i ∧ P i < (i : Int)) (hPe : ∀ i, i < n → M0.2.1 340 i = P i ∧ M0.2.1 341 i = H i) (hT : T = tLen P H s last)
    (hQ : ∀ M2, fr [344] M0 M2 → (∀ j, j < T → M2.2.1 344 j = trp P H s last j) → Q none M2) :
    ∀ (f i w : Nat) (M : pM), w ≤ f → w < n → i ≤ T → (trc P H f (w : Int)).length = i → (∀ j, j < i → (trc P H f (w : Int)).getD j 0 = trp P H s last j) → fr [344] M0 M → (∀ j, i ≤ j → j < T → M.2.1 344 j = trp P H s last j) →
      Go (Ct d) Q yX12_traces cX12_traces none 0 0 66 [some (.ref 317), some (.int (iI ((s : Nat) : Int))), some (.int (iI last)), some (.int (iI ((i : Nat) : Int))), some (.int (iI ((w : Nat) : Int)))] [] M := by
  have hTb : T ≤ 3001 := by have := trc_le (P := P) (H := H) s (s : Int); rw [tLen] at hT; split at hT <;> omega
  intro f
  induction f with
  | zero =>
    intro i w M hw hw3 hi hl hj hfr hM
    have hS := hfr.ok hS
    obtain rfl : w = 0 := by omega
    obtain rfl : i = 0 := hl.symm
    have hPe1 : M.2.1 340 0 = P 0 := by rw [hfr.i (by decide)]; exact (hPe _ (by omega)).1
    refine r_aload0 (pc2 := 67) dX12_traces_66 rfl ?_
    refine r_getR (pc2 := 70) dX12_traces_67 rfl fX12_122 (hK_317 hS) (hR_317_36 hS) ?_
    refine r_iload4 (pc2 := 72) dX12_traces_70 rfl ?_
    refine r_iald (z := (P 0)) (pc2 := 73) dX12_traces_72 rfl (hK_340 hS) 0 rfl (by omega) hPe1 ?_
    refine r_iflt (tgt := 104) (pc2 := 76) dX12_traces_73 rfl (by decide) ⟨by omega, by omega⟩ (fun b_73 => ?_) (fun b_73 => ?_)
    · refine r_ret dX12_traces_104 rfl ?_
      exact hQ M hfr (fun j h => hM j (by omega) h)
    · exact absurd b_73 (by omega)
  | succ f ih =>
    intro i w M hw hw3 hi hl hj hfr hM
    have hS := hfr.ok hS
    have hPe1 : M.2.1 340 w = P w := by rw [hfr.i (by decide)]; exact (hPe _ (by omega)).1
    have hPe2 : M.2.1 341 w = H w := by rw [hfr.i (by decide)]; exact (hPe _ (by omega)).2
    by_cases h0 : w = 0
    · subst h0
      rw [trc_0 (by omega)] at hl
      obtain rfl : i = 0 := hl.symm
      refine r_aload0 (pc2 := 67) dX12_traces_66 rfl ?_
      refine r_getR (pc2 := 70) dX12_traces_67 rfl fX12_122 (hK_317 hS) (hR_317_36 hS) ?_
      refine r_iload4 (pc2 := 72) dX12_traces_70 rfl ?_
      refine r_iald (z := (P 0)) (pc2 := 73) dX12_traces_72 rfl (hK_340 hS) 0 rfl (by omega) hPe1 ?_
      refine r_iflt (tgt := 104) (pc2 := 76) dX12_traces_73 rfl (by decide) ⟨by omega, by omega⟩ (fun b_73 => ?_) (fun b_73 => ?_)
      · refine r_ret dX12_traces_104 rfl ?_
        exact hQ M hfr (fun j h => hM j (by omega) h)
      · exact absurd b_73 (by omega)
    · have hts := trc_s (P := P) (H := H) (f := f) (show 0 < (w : Int) by omega)
      rw [Int.toNat_natCast] at hts
      rw [hts] at hl hj
      rw [List.length_append, List.length_singleton] at hl
      obtain ⟨i2, rfl⟩ : ∃ i2, i = i2 + 1 := ⟨(trc P H f (P w)).length, hl.symm⟩
      have hl2 : (trc P H f (P w)).length = i2 := by omega
      have hPw := hP w (by omega) (by omega)
      have hpn : ((P w).toNat : Int) = P w := by omega
      have hj2 : trp P H s last i2 = H w := by
        rw [← hj i2 (by omega), ← hl2]; simp
      refine r_aload0 (pc2 := 67) dX12_traces_66 rfl ?_
      refine r_getR (pc2 := 70) dX12_traces_67 rfl fX12_122 (hK_317 hS) (hR_317_36 hS) ?_
      refine r_iload4 (pc2 := 72) dX12_traces_70 rfl ?_
      refine r_iald (z := (P w)) (pc2 := 73) dX12_traces_72 rfl (hK_340 hS) w rfl (by omega) hPe1 ?_
      refine r_iflt (tgt := 104) (pc2 := 76) dX12_traces_73 rfl (by decide) ⟨by omega, by omega⟩ (fun b_73 => ?_) (fun b_73 => ?_)
      · refine r_ret dX12_traces_104 rfl ?_
        exact absurd b_73 (by omega)
      · refine r_iinc3 (z := ((i2 : Nat) : Int)) (pc2 := 79) dX12_traces_76 rfl (by omega) rfl ?_
        refine r_aload0 (pc2 := 80) dX12_traces_79 rfl ?_
        refine r_getR (pc2 := 83) dX12_traces_80 rfl fX12_135 (hK_317 hS) (hR_317_43 hS) ?_
        refine r_iload3 (pc2 := 84) dX12_traces_83 rfl ?_
        refine r_aload0 (pc2 := 85) dX12_traces_84 rfl ?_
        refine r_getR (pc2 := 88) dX12_traces_85 rfl fX12_125 (hK_317 hS) (hR_317_37 hS) ?_
        refine r_iload4 (pc2 := 90) dX12_traces_88 rfl ?_
        refine r_iald (z := (H w)) (pc2 := 91) dX12_traces_90 rfl (hK_341 hS) w rfl (by omega) hPe2 ?_
        refine r_iast (z := (H w)) (pc2 := 92) dX12_traces_91 rfl (hK_344 hS) (by decide) i2 rfl (by omega) ?_
        refine r_aload0 (pc2 := 93) dX12_traces_92 rfl ?_
        refine r_getR (pc2 := 96) dX12_traces_93 rfl fX12_122 (hK_317 hS) (hR_317_36 hS) ?_
        refine r_iload4 (pc2 := 98) dX12_traces_96 rfl ?_
        refine r_iald (z := (P w)) (pc2 := 99) dX12_traces_98 rfl (hK_340 hS) w rfl (by omega) hPe1 ?_
        refine r_istore4 (pc2 := 101) dX12_traces_99 rfl rfl ?_
        refine r_goto (tgt := 66) dX12_traces_101 (by decide) ?_
        rw [← hpn] at hl2
        rw [← hpn]
        refine ih i2 (P w).toNat _ (by omega) (by omega) (by omega) hl2 (fun j h => ?_) (hfr.I List.mem_cons_self) (fun j h h3 => ?_)
        · rw [← hj j (by omega), hpn]
          rw [hpn] at hl2
          simp only [List.getD_eq_getElem?_getD]
          rw [List.getElem?_append_left (by omega)]
        · by_cases e9 : j = i2
          · subst e9; rw [pI_at, hj2]
          · rw [pI_nk e9]; exact hM j (by omega) h3
set_option maxHeartbeats 4000000 in
theorem lp_X12_tracesa {d : Nat} {Q : pQ} {n s T : Nat} {last : Int} {P H : Nat → Int} (M0 : pM) (hS : sOk M0.1) (hn : n ≤ 3000) (hs : s < n) (hP0 : P 0 = -1) (hP : ∀ i, 0 < i → i < n → 0 ≤ P i ∧ P i < (i : Int)) (hPe : ∀ i, i < n → M0.2.1 340 i = P i ∧ M0.2.1 341 i = H i) (hT : T = tLen P H s last) (hlr : inR last)
    (hQ : ∀ M2, fr [344] (pI M0 317 44 (T : Int)) M2 → (∀ j, j < T → M2.2.1 344 j = trp P H s last j) → Q none M2) :
    ∀ (f u w : Nat), w ≤ f → w < n → u + (trc P H f (w : Int)).length = T →
      Go (Ct d) Q yX12_traces cX12_traces none 0 0 15 [some (.ref 317), some (.int (iI ((s : Nat) : Int))), some (.int (iI last)), some (.int (iI ((w : Nat) : Int))), none] [] (pI M0 317 44 ((u : Nat) : Int)) := by
  have hTb : T ≤ 3001 := by have := trc_le (P := P) (H := H) s (s : Int); rw [tLen] at hT; split at hT <;> omega
  obtain ⟨r1, r2⟩ := hlr
  have fin : ∀ w9 : Nat, Go (Ct d) Q yX12_traces cX12_traces none 0 0 44 [some (.ref 317), some (.int (iI ((s : Nat) : Int))), some (.int (iI last)), some (.int (iI ((w9 : Nat) : Int))), none] [] (pI M0 317 44 ((T : Nat) : Int)) := by
    intro w9
    refine r_aload0 (pc2 := 45) dX12_traces_44 rfl ?_
    refine r_getI (z := ((T : Nat) : Int)) (pc2 := 48) dX12_traces_45 rfl (Or.inl fX12_360) (hK_317 hS) rfl ?_
    refine r_istore3 (pc2 := 49) dX12_traces_48 rfl rfl ?_
    refine r_iload2 (pc2 := 50) dX12_traces_49 rfl ?_
    refine r_iflt (tgt := 63) (pc2 := 53) dX12_traces_50 rfl (by decide) ⟨by omega, by omega⟩ (fun b_50 => ?_) (fun b_50 => ?_)
    · refine r_iload1 (pc2 := 64) dX12_traces_63 rfl ?_
      refine r_istore4 (pc2 := 66) dX12_traces_64 rfl rfl ?_
      have ht2 : (trc P H s (s : Int)).length = T := by rw [hT, tLen, if_pos b_50]; rfl
      exact lp_X12_tracesb (pI M0 317 44 (T : Int)) hS hn hs hP0 hP hPe hT hQ s T s _ (Nat.le_refl _) hs (Nat.le_refl _) ht2 (fun j h => (trp_in (by omega)).symm) fr.rf (fun j h h3 => absurd h3 (by omega))
    · refine r_iinc3 (z := ((T - 1 : Nat) : Int)) (pc2 := 56) dX12_traces_53 rfl (by have h8 : 0 < T := (by rw [hT, tLen, if_neg (by omega)]; omega); omega) rfl ?_
      refine r_aload0 (pc2 := 57) dX12_traces_56 rfl ?_
      refine r_getR (pc2 := 60) dX12_traces_57 rfl fX12_135 (hK_317 hS) (hR_317_43 hS) ?_
      refine r_iload3 (pc2 := 61) dX12_traces_60 rfl ?_
      refine r_iload2 (pc2 := 62) dX12_traces_61 rfl ?_
      refine r_iast (z := last) (pc2 := 63) dX12_traces_62 rfl (hK_344 hS) (by decide) (T - 1) rfl (by omega) ?_
      refine r_iload1 (pc2 := 64) dX12_traces_63 rfl ?_
      refine r_istore4 (pc2 := 66) dX12_traces_64 rfl rfl ?_
      refine lp_X12_tracesb (pI M0 317 44 (T : Int)) hS hn hs hP0 hP hPe hT hQ s (T - 1) s _ (Nat.le_refl _) hs (Nat.sub_le _ _) (by rw [hT, tLen, if_neg (by omega)]; omega) (fun j h => (trp_in (by rw [hT, tLen, if_neg (by omega)] at h; omega)).symm) (fr.rf.I List.mem_cons_self) (fun j h h3 => ?_)
      obtain rfl : j = T - 1 := by omega
      rw [pI_at]
      rw [show T - 1 = (trc P H s (s : Int)).length by rw [hT, tLen, if_neg (by omega)]; omega]
      exact trp_last.symm
  intro f
  induction f with
  | zero =>
    intro u w hw hw3 hu
    obtain rfl : w = 0 := by omega
    obtain rfl : u = T := hu
    have hPe1 := (hPe 0 (by omega)).1
    refine r_aload0 (pc2 := 16) dX12_traces_15 rfl ?_
    refine r_getR (pc2 := 19) dX12_traces_16 rfl fX12_122 (hK_317 hS) (hR_317_36 hS) ?_
    refine r_iload3 (pc2 := 20) dX12_traces_19 rfl ?_
    refine r_iald (z := (P 0)) (pc2 := 21) dX12_traces_20 rfl (hK_340 hS) 0 rfl (by omega) hPe1 ?_
    refine r_iflt (tgt := 44) (pc2 := 24) dX12_traces_21 rfl (by decide) ⟨by omega, by omega⟩ (fun b_21 => ?_) (fun b_21 => ?_)
    · exact fin 0
    · exact absurd b_21 (by omega)
  | succ f ih =>
    intro u w hw hw3 hu
    have hPe1 := (hPe w (by omega)).1
    by_cases h0 : w = 0
    · subst h0
      obtain rfl : u = T := by rw [trc_0 (by omega)] at hu; exact hu
      refine r_aload0 (pc2 := 16) dX12_traces_15 rfl ?_
      refine r_getR (pc2 := 19) dX12_traces_16 rfl fX12_122 (hK_317 hS) (hR_317_36 hS) ?_
      refine r_iload3 (pc2 := 20) dX12_traces_19 rfl ?_
      refine r_iald (z := (P 0)) (pc2 := 21) dX12_traces_20 rfl (hK_340 hS) 0 rfl (by omega) hPe1 ?_
      refine r_iflt (tgt := 44) (pc2 := 24) dX12_traces_21 rfl (by decide) ⟨by omega, by omega⟩ (fun b_21 => ?_) (fun b_21 => ?_)
      · exact fin 0
      · exact absurd b_21 (by omega)
    · have hts := trc_s (P := P) (H := H) (f := f) (show 0 < (w : Int) by omega)
      rw [Int.toNat_natCast] at hts
      rw [hts, List.length_append, List.length_singleton] at hu
      have hPw := hP w (by omega) (by omega)
      have hpn : ((P w).toNat : Int) = P w := by omega
      refine r_aload0 (pc2 := 16) dX12_traces_15 rfl ?_
      refine r_getR (pc2 := 19) dX12_traces_16 rfl fX12_122 (hK_317 hS) (hR_317_36 hS) ?_
      refine r_iload3 (pc2 := 20) dX12_traces_19 rfl ?_
      refine r_iald (z := (P w)) (pc2 := 21) dX12_traces_20 rfl (hK_340 hS) w rfl (by omega) hPe1 ?_
      refine r_iflt (tgt := 44) (pc2 := 24) dX12_traces_21 rfl (by decide) ⟨by omega, by omega⟩ (fun b_21 => ?_) (fun b_21 => ?_)
      · exact absurd b_21 (by omega)
      · refine r_aload0 (pc2 := 25) dX12_traces_24 rfl ?_
        refine r_dup (pc2 := 26) dX12_traces_25 rfl rfl ?_
        refine r_getI (z := ((u : Nat) : Int)) (pc2 := 29) dX12_traces_26 rfl (Or.inl fX12_360) (hK_317 hS) rfl ?_
        refine r_iconst (pc2 := 30) dX12_traces_29 rfl ?_
        refine r_iadd (c := ((u + 1 : Nat) : Int)) (pc2 := 31) dX12_traces_30 rfl (by omega) ?_
        refine r_putI (z := ((u + 1 : Nat) : Int)) (pc2 := 34) dX12_traces_31 rfl fX12_360 (w12_44 _) (hK_317 hS) (by decide) ?_
        refine r_aload0 (pc2 := 35) dX12_traces_34 rfl ?_
        refine r_getR (pc2 := 38) dX12_traces_35 rfl fX12_122 (hK_317 hS) (hR_317_36 hS) ?_
        refine r_iload3 (pc2 := 39) dX12_traces_38 rfl ?_
        refine r_iald (z := (P w)) (pc2 := 40) dX12_traces_39 rfl (hK_340 hS) w rfl (by omega) hPe1 ?_
        refine r_istore3 (pc2 := 41) dX12_traces_40 rfl rfl ?_
        refine r_goto (tgt := 15) dX12_traces_41 (by decide) ?_
        rw [pI_pI, ← hpn]
        exact ih (u + 1) (P w).toNat (by omega) (by omega) (by rw [hpn]; omega)
set_option maxHeartbeats 4000000 in
theorem c_X12_traces {d : Nat} {M : pM} {n s : Nat} {last : Int} {P H : Nat → Int} (hS : sOk M.1) (hn : n ≤ 3000) (hs : s < n) (hP0 : P 0 = -1) (hP : ∀ i, 0 < i → i < n → 0 ≤ P i ∧ P i < (i : Int)) (hPe : ∀ i, i < n → M.2.1 340 i = P i ∧ M.2.1 341 i = H i) (hlr : inR last) : Ct (d + 1) 0 0 yX12_traces [.ref 317, .int (iI ((s : Nat) : Int)), .int (iI last)] M (fun v M2 => v = none ∧ fr [344] (pI M 317 44 ((tLen P H s last : Nat) : Int)) M2 ∧ ∀ j, j < tLen P H s last → M2.2.1 344 j = trp P H s last j) := by
  refine ct_in (d := d) kX12_traces rfl (by decide) (Nat.le_of_ble_eq_true rfl) (by decide) ?_
  show Go (Ct d) _ yX12_traces cX12_traces none 0 0 0 [some (.ref 317), some (.int (iI ((s : Nat) : Int))), some (.int (iI last)), none, none] [] M
  obtain ⟨r1, r2⟩ := hlr
  refine r_aload0 (pc2 := 1) dX12_traces_0 rfl ?_
  refine r_iload2 (pc2 := 2) dX12_traces_1 rfl ?_
  refine r_ifge (tgt := 9) (pc2 := 5) dX12_traces_2 rfl (by decide) ⟨by omega, by omega⟩ (fun b_2 => ?_) (fun b_2 => ?_)
  · refine r_iconst (pc2 := 10) dX12_traces_9 rfl ?_
    refine r_putI (z := 1) (pc2 := 13) dX12_traces_10 rfl fX12_360 (w12_44 _) (hK_317 hS) (by decide) ?_
    refine r_iload1 (pc2 := 14) dX12_traces_13 rfl ?_
    refine r_istore3 (pc2 := 15) dX12_traces_14 rfl rfl ?_
    exact lp_X12_tracesa M hS hn hs hP0 hP hPe rfl ⟨r1, r2⟩ (fun M2 h1 h2 => ⟨rfl, h1, h2⟩) s 1 s (Nat.le_refl _) hs (by rw [tLen, if_neg (by omega)]; omega)
  · refine r_iconst (pc2 := 6) dX12_traces_5 rfl ?_
    refine r_goto (tgt := 10) dX12_traces_6 (by decide) ?_
    refine r_putI (z := 0) (pc2 := 13) dX12_traces_10 rfl fX12_360 (w12_44 _) (hK_317 hS) (by decide) ?_
    refine r_iload1 (pc2 := 14) dX12_traces_13 rfl ?_
    refine r_istore3 (pc2 := 15) dX12_traces_14 rfl rfl ?_
    exact lp_X12_tracesa M hS hn hs hP0 hP hPe rfl ⟨r1, r2⟩ (fun M2 h1 h2 => ⟨rfl, h1, h2⟩) s 0 s (Nat.le_refl _) hs (by rw [tLen, if_pos (by omega)]; omega)
