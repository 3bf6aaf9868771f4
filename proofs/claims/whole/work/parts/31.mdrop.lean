/-! the model's drop. kind 328, told 329, show 330, lever 331, hopColumn 332, hopKind 333, stock 334, trainOf 335 -/
def aFlipK (pc tr : Nat → Int) (t : Int) (k : Nat) (sh : Nat → Int) : Nat → Int := fun q => if q < k ∧ tr q = t ∧ pc q = 4 then 1 - sh q else sh q
theorem aFlipK_0 {pc tr : Nat → Int} {t : Int} {sh : Nat → Int} : aFlipK pc tr t 0 sh = sh := by funext q; unfold aFlipK; rw [if_neg (by omega)]
theorem aFlipK_no {pc tr : Nat → Int} {t : Int} {sh : Nat → Int} {k : Nat} (h : ¬ (tr k = t ∧ pc k = 4)) : aFlipK pc tr t (k + 1) sh = aFlipK pc tr t k sh := by
  funext q; unfold aFlipK
  by_cases e : q = k
  · subst e; rw [if_neg (by omega), if_neg (by omega)]
  · by_cases e2 : q < k ∧ tr q = t ∧ pc q = 4
    · rw [if_pos e2, if_pos ⟨by omega, e2.2⟩]
    · rw [if_neg e2, if_neg (by omega)]
theorem aFlipK_yes {pc tr : Nat → Int} {t : Int} {sh : Nat → Int} {k : Nat} (h : tr k = t ∧ pc k = 4) : aFlipK pc tr t (k + 1) sh = va_up (aFlipK pc tr t k sh) k (1 - sh k) := by
  funext q
  by_cases e : q = k
  · subst e; rw [up_at]; unfold aFlipK; rw [if_pos ⟨by omega, h⟩]
  · rw [up_ne e]; unfold aFlipK
    by_cases e2 : q < k ∧ tr q = t ∧ pc q = 4
    · rw [if_pos e2, if_pos ⟨by omega, e2.2⟩]
    · rw [if_neg e2, if_neg (by omega)]
set_option maxHeartbeats 4000000 in
theorem lp_X12_flips {d : Nat} {Q : pQ} {b s : Nat} {t : Int} (pc tr sh f : Nat → Int) (M0 : pM) (hS0 : sOk M0.1) (hb : b < 28) (hs : s < 2) (ht1 : -2 ≤ t) (ht2 : t < 156) (htr : ∀ p, p < 156 → M0.2.1 335 (156 * s + p) = tr p ∧ -1 ≤ tr p ∧ tr p < 156) (hpc : ∀ p, p < 156 → M0.2.1 328 (156 * b + p) = pc p ∧ 0 ≤ pc p ∧ pc p ≤ 9)
    (hQ : ∀ M2, fr [330] M0 M2 → M2.2.1 330 = sB f 156 b (aFlipK pc tr t 156 sh) → Q none M2) :
    ∀ (n k : Nat) (M : pM), k + n = 156 → fr [330] M0 M → M.2.1 330 = sB f 156 b (aFlipK pc tr t k sh) → Go (Ct d) Q yX12_flips cX12_flips none 0 0 3 [some (.ref 317), some (.int (iI ((b : Nat) : Int))), some (.int (iI ((s : Nat) : Int))), some (.int (iI t)), some (.int (iI ((k : Nat) : Int)))] [] M := by
  intro n
  induction n with
  | zero =>
    intro k M hk hf hm
    have hS := hf.ok hS0
    obtain rfl : k = 156 := by omega
    refine r_iload4 (pc2 := 5) dX12_flips_3 rfl ?_
    refine r_sipush (pc2 := 8) dX12_flips_5 rfl (by decide) (by decide) ?_
    refine r_icge (tgt := 79) (pc2 := 11) dX12_flips_8 rfl (by decide) ⟨by omega, by omega⟩ ⟨by omega, by omega⟩ (fun b_8 => ?_) (fun b_8 => ?_)
    · refine r_ret dX12_flips_79 rfl ?_
      exact hQ M hf hm
    · exact absurd b_8 (by omega)
  | succ n ih =>
    intro k M hk hf hm
    have hS := hf.ok hS0
    obtain ⟨t1, t2, t3⟩ := htr k (by omega)
    obtain ⟨p1, p2, p3⟩ := hpc k (by omega)
    have e335 : M.2.1 335 = M0.2.1 335 := hf.i (by decide)
    have e328 : M.2.1 328 = M0.2.1 328 := hf.i (by decide)
    have hv : M.2.1 330 (156 * b + k) = sh k := by
      rw [hm, sB_in (by omega)]; unfold aFlipK; rw [if_neg (by omega)]
    have r1 : M.2.1 335 (156 * s + k) = tr k := by rw [e335]; exact t1
    have r2 : M.2.1 328 (156 * b + k) = pc k := by rw [e328]; exact p1
    refine r_iload4 (pc2 := 5) dX12_flips_3 rfl ?_
    refine r_sipush (pc2 := 8) dX12_flips_5 rfl (by decide) (by decide) ?_
    refine r_icge (tgt := 79) (pc2 := 11) dX12_flips_8 rfl (by decide) ⟨by omega, by omega⟩ ⟨by omega, by omega⟩ (fun b_8 => ?_) (fun b_8 => ?_)
    · refine r_ret dX12_flips_79 rfl ?_
      exact absurd b_8 (by omega)
    · refine r_aload0 (pc2 := 12) dX12_flips_11 rfl ?_
      refine r_getR (pc2 := 15) dX12_flips_12 rfl fX12_107 (hK_317 hS) (hR_317_29 hS) ?_
      refine r_sipush (pc2 := 18) dX12_flips_15 rfl (by decide) (by decide) ?_
      refine r_iload2 (pc2 := 19) dX12_flips_18 rfl ?_
      refine r_imul (c := (156 * ((s : Nat) : Int))) (pc2 := 20) dX12_flips_19 rfl rfl ?_
      refine r_iload4 (pc2 := 22) dX12_flips_20 rfl ?_
      refine r_iadd (c := ((156 * ((s : Nat) : Int)) + ((k : Nat) : Int))) (pc2 := 23) dX12_flips_22 rfl rfl ?_
      refine r_iald (z := (tr k)) (pc2 := 24) dX12_flips_23 rfl (hK_335 hS) ((156 * s) + k) (by omega) (by omega) r1 ?_
      refine r_iload3 (pc2 := 25) dX12_flips_24 rfl ?_
      refine r_icne (tgt := 73) (pc2 := 28) dX12_flips_25 rfl (by decide) ⟨by omega, by omega⟩ ⟨by omega, by omega⟩ (fun b_25 => ?_) (fun b_25 => ?_)
      · refine r_iinc4 (z := ((k + 1 : Nat) : Int)) (pc2 := 76) dX12_flips_73 rfl (by omega) rfl ?_
        refine r_goto (tgt := 3) dX12_flips_76 (by decide) ?_
        exact ih (k + 1) M (by omega) hf (by rw [hm, aFlipK_no (by omega)])
      · refine r_aload0 (pc2 := 29) dX12_flips_28 rfl ?_
        refine r_getR (pc2 := 32) dX12_flips_29 rfl fX12_86 (hK_317 hS) (hR_317_17 hS) ?_
        refine r_sipush (pc2 := 35) dX12_flips_32 rfl (by decide) (by decide) ?_
        refine r_iload1 (pc2 := 36) dX12_flips_35 rfl ?_
        refine r_imul (c := (156 * ((b : Nat) : Int))) (pc2 := 37) dX12_flips_36 rfl rfl ?_
        refine r_iload4 (pc2 := 39) dX12_flips_37 rfl ?_
        refine r_iadd (c := ((156 * ((b : Nat) : Int)) + ((k : Nat) : Int))) (pc2 := 40) dX12_flips_39 rfl rfl ?_
        refine r_iald (z := (pc k)) (pc2 := 41) dX12_flips_40 rfl (hK_328 hS) ((156 * b) + k) (by omega) (by omega) r2 ?_
        refine r_iconst (pc2 := 42) dX12_flips_41 rfl ?_
        refine r_icne (tgt := 73) (pc2 := 45) dX12_flips_42 rfl (by decide) ⟨by omega, by omega⟩ ⟨by omega, by omega⟩ (fun b_42 => ?_) (fun b_42 => ?_)
        · refine r_iinc4 (z := ((k + 1 : Nat) : Int)) (pc2 := 76) dX12_flips_73 rfl (by omega) rfl ?_
          refine r_goto (tgt := 3) dX12_flips_76 (by decide) ?_
          exact ih (k + 1) M (by omega) hf (by rw [hm, aFlipK_no (by omega)])
        · refine r_aload0 (pc2 := 46) dX12_flips_45 rfl ?_
          refine r_getR (pc2 := 49) dX12_flips_46 rfl fX12_92 (hK_317 hS) (hR_317_19 hS) ?_
          refine r_sipush (pc2 := 52) dX12_flips_49 rfl (by decide) (by decide) ?_
          refine r_iload1 (pc2 := 53) dX12_flips_52 rfl ?_
          refine r_imul (c := (156 * ((b : Nat) : Int))) (pc2 := 54) dX12_flips_53 rfl rfl ?_
          refine r_iload4 (pc2 := 56) dX12_flips_54 rfl ?_
          refine r_iadd (c := ((156 * ((b : Nat) : Int)) + ((k : Nat) : Int))) (pc2 := 57) dX12_flips_56 rfl rfl ?_
          refine r_iconst (pc2 := 58) dX12_flips_57 rfl ?_
          refine r_aload0 (pc2 := 59) dX12_flips_58 rfl ?_
          refine r_getR (pc2 := 62) dX12_flips_59 rfl fX12_92 (hK_317 hS) (hR_317_19 hS) ?_
          refine r_sipush (pc2 := 65) dX12_flips_62 rfl (by decide) (by decide) ?_
          refine r_iload1 (pc2 := 66) dX12_flips_65 rfl ?_
          refine r_imul (c := (156 * ((b : Nat) : Int))) (pc2 := 67) dX12_flips_66 rfl rfl ?_
          refine r_iload4 (pc2 := 69) dX12_flips_67 rfl ?_
          refine r_iadd (c := ((156 * ((b : Nat) : Int)) + ((k : Nat) : Int))) (pc2 := 70) dX12_flips_69 rfl rfl ?_
          refine r_iald (z := (sh k)) (pc2 := 71) dX12_flips_70 rfl (hK_330 hS) ((156 * b) + k) (by omega) (by omega) hv ?_
          refine r_isub (c := (1 - (sh k))) (pc2 := 72) dX12_flips_71 rfl rfl ?_
          refine r_iast (z := (1 - (sh k))) (pc2 := 73) dX12_flips_72 rfl (hK_330 hS) (by decide) ((156 * b) + k) (by omega) (by omega) ?_
          refine r_iinc4 (z := ((k + 1 : Nat) : Int)) (pc2 := 76) dX12_flips_73 rfl (by omega) rfl ?_
          refine r_goto (tgt := 3) dX12_flips_76 (by decide) ?_
          refine ih (k + 1) _ (by omega) (hf.I (by decide)) ?_
          rw [pI_eq, hm, sB_up (by omega), aFlipK_yes (by omega)]
set_option maxHeartbeats 4000000 in
theorem c_X12_flips {d : Nat} {M : pM} {b s : Nat} {t : Int} {pc tr sh : Nat → Int} (hS : sOk M.1) (hb : b < 28) (hs : s < 2) (ht1 : -2 ≤ t) (ht2 : t < 156) (htr : ∀ p, p < 156 → M.2.1 335 (156 * s + p) = tr p ∧ -1 ≤ tr p ∧ tr p < 156) (hpc : ∀ p, p < 156 → M.2.1 328 (156 * b + p) = pc p ∧ 0 ≤ pc p ∧ pc p ≤ 9) (hsh : M.2.1 330 = sB (M.2.1 330) 156 b sh) : Ct (d + 1) 0 0 yX12_flips [.ref 317, .int (iI ((b : Nat) : Int)), .int (iI ((s : Nat) : Int)), .int (iI t)] M (fun v M2 => v = none ∧ fr [330] M M2 ∧ M2.2.1 330 = sB (M.2.1 330) 156 b (aFlip pc tr t sh)) := by
  refine ct_in (d := d) kX12_flips rfl (by decide) (Nat.le_of_ble_eq_true rfl) (by decide) ?_
  show Go (Ct d) _ yX12_flips cX12_flips none 0 0 0 [some (.ref 317), some (.int (iI ((b : Nat) : Int))), some (.int (iI ((s : Nat) : Int))), some (.int (iI t)), none] [] M
  refine r_iconst (pc2 := 1) dX12_flips_0 rfl ?_
  refine r_istore4 (pc2 := 3) dX12_flips_1 rfl rfl ?_
  exact lp_X12_flips pc tr sh (M.2.1 330) M hS hb hs ht1 ht2 htr hpc (fun M2 h1 h2 => ⟨rfl, h1, h2⟩) 156 0 M (by omega) fr.rf (by rw [aFlipK_0]; exact hsh)
set_option maxHeartbeats 4000000 in
theorem c_X12_sends {d : Nat} {M : pM} {b s p : Nat} {kd l st : Int} {pc sz tr sh : Nat → Int} (hS : sOk M.1) (hb : b < 28) (hs : s < 2) (hp : p < 156) (hkd : inR kd) (hl : l = 0 ∨ l = 1) (hst : -2 ≤ st ∧ st < 156) (hB : mBd M b s pc sz tr sh) : Ct (d + 2) 0 0 yX12_sends [.ref 317, .int (iI ((b : Nat) : Int)), .int (iI ((s : Nat) : Int)), .int (iI ((p : Nat) : Int)), .int (iI kd), .int (iI l), .int (iI st)] M (fun v M2 => v = some (.int (iI (aSend pc sz tr st kd p l sh).1)) ∧ fr [330] M M2 ∧ M2.2.1 330 = sB (M.2.1 330) 156 b (aSend pc sz tr st kd p l sh).2) := by
  refine ct_in (d := (d + 1)) kX12_sends rfl (by decide) (Nat.le_of_ble_eq_true rfl) (by decide) ?_
  show Go (Ct (d + 1)) _ yX12_sends cX12_sends (some .int) 0 0 0 [some (.ref 317), some (.int (iI ((b : Nat) : Int))), some (.int (iI ((s : Nat) : Int))), some (.int (iI ((p : Nat) : Int))), some (.int (iI kd)), some (.int (iI l)), some (.int (iI st)), none, none, none] [] M
  obtain ⟨k1, k2⟩ := hkd
  have q1 := hB.1 p hp
  have q2 := hB.2.1 p hp
  have q3 := hB.2.2.1 p hp
  obtain ⟨q4, q5, q6⟩ := hB.2.2.2.1 p hp
  obtain ⟨w1, w2, w3, w4, w5, w6⟩ := hB.2.2.2.2 p hp
  have m7 : pc p = 7 → 0 ≤ (sh p + 1) % sz p ∧ (sh p + 1) % sz p < 10 := fun h => ⟨Int.emod_nonneg _ (by have := w4 h; omega), by have := w4 h; have := Int.emod_lt_of_pos (sh p + 1) (show 0 < sz p by omega); omega⟩
  refine r_sipush (pc2 := 3) dX12_sends_0 rfl (by decide) (by decide) ?_
  refine r_iload1 (pc2 := 4) dX12_sends_3 rfl ?_
  refine r_imul (c := (156 * ((b : Nat) : Int))) (pc2 := 5) dX12_sends_4 rfl rfl ?_
  refine r_iload3 (pc2 := 6) dX12_sends_5 rfl ?_
  refine r_iadd (c := ((156 * ((b : Nat) : Int)) + ((p : Nat) : Int))) (pc2 := 7) dX12_sends_6 rfl rfl ?_
  refine r_istore7 (pc2 := 9) dX12_sends_7 rfl rfl ?_
  refine r_aload0 (pc2 := 10) dX12_sends_9 rfl ?_
  refine r_getR (pc2 := 13) dX12_sends_10 rfl fX12_86 (hK_317 hS) (hR_317_17 hS) ?_
  refine r_iload7 (pc2 := 15) dX12_sends_13 rfl ?_
  refine r_iald (z := (pc p)) (pc2 := 16) dX12_sends_15 rfl (hK_328 hS) ((156 * b) + p) (by omega) (by omega) q1 ?_
  by_cases sw16_1 : (pc p) = 1
  · refine r_tabIn (tgt := 68) dX12_sends_16 ⟨by omega, by omega⟩ 0 (by omega) (by omega) rfl (by decide) ?_
    refine r_iconst (pc2 := 69) dX12_sends_68 rfl ?_
    refine r_ireti dX12_sends_69 rfl ?_
    have e0 : aSend pc sz tr st kd p l sh = (0, sh) := by unfold aSend; rw [if_pos sw16_1]
    rw [e0]
    exact ⟨rfl, fr.rf, sB_of hB.2.2.1⟩
  by_cases sw16_2 : (pc p) = 2
  · refine r_tabIn (tgt := 70) dX12_sends_16 ⟨by omega, by omega⟩ 1 (by omega) (by omega) rfl (by decide) ?_
    refine r_iconst (pc2 := 71) dX12_sends_70 rfl ?_
    refine r_ireti dX12_sends_71 rfl ?_
    have e0 : aSend pc sz tr st kd p l sh = (1, sh) := by unfold aSend; rw [if_neg (by omega), if_pos sw16_2]
    rw [e0]
    exact ⟨rfl, fr.rf, sB_of hB.2.2.1⟩
  by_cases sw16_3 : (pc p) = 3
  · refine r_tabIn (tgt := 72) dX12_sends_16 ⟨by omega, by omega⟩ 2 (by omega) (by omega) rfl (by decide) ?_
    refine r_iload5 (pc2 := 74) dX12_sends_72 rfl ?_
    refine r_ifeq (tgt := 81) (pc2 := 77) dX12_sends_74 rfl (by decide) ⟨by omega, by omega⟩ (fun b_74 => ?_) (fun b_74 => ?_)
    · refine r_iconst (pc2 := 82) dX12_sends_81 rfl ?_
      refine r_ireti dX12_sends_82 rfl ?_
      have e0 : aSend pc sz tr st kd p l sh = (l, sh) := by unfold aSend; rw [if_neg (by omega), if_neg (by omega), if_pos sw16_3]
      rw [e0]
      exact ⟨by first | rfl | (congr 3; omega), fr.rf, sB_of hB.2.2.1⟩
    · refine r_iconst (pc2 := 78) dX12_sends_77 rfl ?_
      refine r_goto (tgt := 82) dX12_sends_78 (by decide) ?_
      refine r_ireti dX12_sends_82 rfl ?_
      have e0 : aSend pc sz tr st kd p l sh = (l, sh) := by unfold aSend; rw [if_neg (by omega), if_neg (by omega), if_pos sw16_3]
      rw [e0]
      exact ⟨by first | rfl | (congr 3; omega), fr.rf, sB_of hB.2.2.1⟩
  by_cases sw16_4 : (pc p) = 4
  · refine r_tabIn (tgt := 83) dX12_sends_16 ⟨by omega, by omega⟩ 3 (by omega) (by omega) rfl (by decide) ?_
    refine r_aload0 (pc2 := 84) dX12_sends_83 rfl ?_
    refine r_getR (pc2 := 87) dX12_sends_84 rfl fX12_92 (hK_317 hS) (hR_317_19 hS) ?_
    refine r_iload7 (pc2 := 89) dX12_sends_87 rfl ?_
    refine r_iald (z := (sh p)) (pc2 := 90) dX12_sends_89 rfl (hK_330 hS) ((156 * b) + p) (by omega) (by omega) q3 ?_
    refine r_istore8 (pc2 := 92) dX12_sends_90 rfl rfl ?_
    refine r_aload0 (pc2 := 93) dX12_sends_92 rfl ?_
    refine r_getR (pc2 := 96) dX12_sends_93 rfl fX12_107 (hK_317 hS) (hR_317_29 hS) ?_
    refine r_sipush (pc2 := 99) dX12_sends_96 rfl (by decide) (by decide) ?_
    refine r_iload2 (pc2 := 100) dX12_sends_99 rfl ?_
    refine r_imul (c := (156 * ((s : Nat) : Int))) (pc2 := 101) dX12_sends_100 rfl rfl ?_
    refine r_iload3 (pc2 := 102) dX12_sends_101 rfl ?_
    refine r_iadd (c := ((156 * ((s : Nat) : Int)) + ((p : Nat) : Int))) (pc2 := 103) dX12_sends_102 rfl rfl ?_
    refine r_iald (z := (tr p)) (pc2 := 104) dX12_sends_103 rfl (hK_335 hS) ((156 * s) + p) (by omega) (by omega) q4 ?_
    refine r_iload6 (pc2 := 106) dX12_sends_104 rfl ?_
    refine r_iceq (tgt := 127) (pc2 := 109) dX12_sends_106 rfl (by decide) ⟨by omega, by omega⟩ ⟨by omega, by omega⟩ (fun b_106 => ?_) (fun b_106 => ?_)
    · refine r_iload8 (pc2 := 129) dX12_sends_127 rfl ?_
      refine r_ireti dX12_sends_129 rfl ?_
      have e0 : aSend pc sz tr st kd p l sh = (sh p, if tr p = st then sh else aFlip pc tr (tr p) sh) := by unfold aSend; rw [if_neg (by omega), if_neg (by omega), if_neg (by omega), if_pos sw16_4]
      rw [e0, if_pos (by omega)]
      exact ⟨rfl, fr.rf, sB_of hB.2.2.1⟩
    · refine r_aload0 (pc2 := 110) dX12_sends_109 rfl ?_
      refine r_iload1 (pc2 := 111) dX12_sends_110 rfl ?_
      refine r_iload2 (pc2 := 112) dX12_sends_111 rfl ?_
      refine r_aload0 (pc2 := 113) dX12_sends_112 rfl ?_
      refine r_getR (pc2 := 116) dX12_sends_113 rfl fX12_107 (hK_317 hS) (hR_317_29 hS) ?_
      refine r_sipush (pc2 := 119) dX12_sends_116 rfl (by decide) (by decide) ?_
      refine r_iload2 (pc2 := 120) dX12_sends_119 rfl ?_
      refine r_imul (c := (156 * ((s : Nat) : Int))) (pc2 := 121) dX12_sends_120 rfl rfl ?_
      refine r_iload3 (pc2 := 122) dX12_sends_121 rfl ?_
      refine r_iadd (c := ((156 * ((s : Nat) : Int)) + ((p : Nat) : Int))) (pc2 := 123) dX12_sends_122 rfl rfl ?_
      refine r_iald (z := (tr p)) (pc2 := 124) dX12_sends_123 rfl (hK_335 hS) ((156 * s) + p) (by omega) (by omega) q4 ?_
      refine r_cv3 (pc2 := 127) dX12_sends_124 rfl vX12_298 (hK_317 hS) (by decide) (c_X12_flips (d := d) (pc := pc) (tr := tr) (sh := sh) hS hb hs (by omega) (by omega) hB.2.2.2.1 (fun q hq => ⟨hB.1 q hq, (hB.2.2.2.2 q hq).1⟩) (sB_of hB.2.2.1)) ?_
      rintro _ M9 ⟨rfl, hf9, he9⟩
      show Go (Ct (d + 1)) _ yX12_sends cX12_sends (some .int) 0 0 127 [some (.ref 317), some (.int (iI ((b : Nat) : Int))), some (.int (iI ((s : Nat) : Int))), some (.int (iI ((p : Nat) : Int))), some (.int (iI kd)), some (.int (iI l)), some (.int (iI st)), some (.int (iI ((156 * ((b : Nat) : Int)) + ((p : Nat) : Int)))), some (.int (iI (sh p))), none] [] M9
      refine r_iload8 (pc2 := 129) dX12_sends_127 rfl ?_
      refine r_ireti dX12_sends_129 rfl ?_
      have e0 : aSend pc sz tr st kd p l sh = (sh p, if tr p = st then sh else aFlip pc tr (tr p) sh) := by unfold aSend; rw [if_neg (by omega), if_neg (by omega), if_neg (by omega), if_pos sw16_4]
      rw [e0, if_neg (by omega)]
      exact ⟨rfl, hf9, he9⟩
  by_cases sw16_5 : (pc p) = 5
  · refine r_tabIn (tgt := 217) dX12_sends_16 ⟨by omega, by omega⟩ 4 (by omega) (by omega) rfl (by decide) ?_
    refine r_iconst (pc2 := 218) dX12_sends_217 rfl ?_
    refine r_ireti dX12_sends_218 rfl ?_
    have e0 : aSend pc sz tr st kd p l sh = (2, sh) := by unfold aSend; rw [if_neg (by omega), if_neg (by omega), if_neg (by omega), if_neg (by omega), if_neg (by omega), if_neg (by omega), if_neg (by omega)]
    rw [e0]
    exact ⟨rfl, fr.rf, sB_of hB.2.2.1⟩
  by_cases sw16_6 : (pc p) = 6
  · refine r_tabIn (tgt := 130) dX12_sends_16 ⟨by omega, by omega⟩ 5 (by omega) (by omega) rfl (by decide) ?_
    refine r_aload0 (pc2 := 131) dX12_sends_130 rfl ?_
    refine r_getR (pc2 := 134) dX12_sends_131 rfl fX12_89 (hK_317 hS) (hR_317_18 hS) ?_
    refine r_iload7 (pc2 := 136) dX12_sends_134 rfl ?_
    refine r_iald (z := (sz p)) (pc2 := 137) dX12_sends_136 rfl (hK_329 hS) ((156 * b) + p) (by omega) (by omega) q2 ?_
    refine r_iload4 (pc2 := 139) dX12_sends_137 rfl ?_
    refine r_icne (tgt := 146) (pc2 := 142) dX12_sends_139 rfl (by decide) ⟨by omega, by omega⟩ ⟨by omega, by omega⟩ (fun b_139 => ?_) (fun b_139 => ?_)
    · refine r_iconst (pc2 := 147) dX12_sends_146 rfl ?_
      refine r_ireti dX12_sends_147 rfl ?_
      have e0 : aSend pc sz tr st kd p l sh = (if sz p = kd then 0 else 1, sh) := by unfold aSend; rw [if_neg (by omega), if_neg (by omega), if_neg (by omega), if_neg (by omega), if_pos sw16_6]
      rw [e0]
      exact ⟨by first | rfl | (rw [if_pos (by omega)]) | (rw [if_neg (by omega)]), fr.rf, sB_of hB.2.2.1⟩
    · refine r_iconst (pc2 := 143) dX12_sends_142 rfl ?_
      refine r_goto (tgt := 147) dX12_sends_143 (by decide) ?_
      refine r_ireti dX12_sends_147 rfl ?_
      have e0 : aSend pc sz tr st kd p l sh = (if sz p = kd then 0 else 1, sh) := by unfold aSend; rw [if_neg (by omega), if_neg (by omega), if_neg (by omega), if_neg (by omega), if_pos sw16_6]
      rw [e0]
      exact ⟨by first | rfl | (rw [if_pos (by omega)]) | (rw [if_neg (by omega)]), fr.rf, sB_of hB.2.2.1⟩
  by_cases sw16_7 : (pc p) = 7
  · refine r_tabIn (tgt := 148) dX12_sends_16 ⟨by omega, by omega⟩ 6 (by omega) (by omega) rfl (by decide) ?_
    refine r_aload0 (pc2 := 149) dX12_sends_148 rfl ?_
    refine r_getR (pc2 := 152) dX12_sends_149 rfl fX12_92 (hK_317 hS) (hR_317_19 hS) ?_
    refine r_iload7 (pc2 := 154) dX12_sends_152 rfl ?_
    refine r_aload0 (pc2 := 155) dX12_sends_154 rfl ?_
    refine r_getR (pc2 := 158) dX12_sends_155 rfl fX12_92 (hK_317 hS) (hR_317_19 hS) ?_
    refine r_iload7 (pc2 := 160) dX12_sends_158 rfl ?_
    refine r_iald (z := (sh p)) (pc2 := 161) dX12_sends_160 rfl (hK_330 hS) ((156 * b) + p) (by omega) (by omega) q3 ?_
    refine r_iconst (pc2 := 162) dX12_sends_161 rfl ?_
    refine r_iadd (c := ((sh p) + 1)) (pc2 := 163) dX12_sends_162 rfl rfl ?_
    refine r_aload0 (pc2 := 164) dX12_sends_163 rfl ?_
    refine r_getR (pc2 := 167) dX12_sends_164 rfl fX12_89 (hK_317 hS) (hR_317_18 hS) ?_
    refine r_iload7 (pc2 := 169) dX12_sends_167 rfl ?_
    refine r_iald (z := (sz p)) (pc2 := 170) dX12_sends_169 rfl (hK_329 hS) ((156 * b) + p) (by omega) (by omega) q2 ?_
    refine r_irem (pc2 := 171) dX12_sends_170 rfl (by omega) (by omega) (by omega) (by omega) ?_
    refine r_iast (z := (((sh p) + 1) % (sz p))) (pc2 := 172) dX12_sends_171 rfl (hK_330 hS) (by decide) ((156 * b) + p) (by omega) (by omega) ?_
    refine r_aload0 (pc2 := 173) dX12_sends_172 rfl ?_
    refine r_getR (pc2 := 176) dX12_sends_173 rfl fX12_92 (hK_317 hS) (hR_317_19 hS) ?_
    refine r_iload7 (pc2 := 178) dX12_sends_176 rfl ?_
    refine r_iald (z := (((sh p) + 1) % (sz p))) (pc2 := 179) dX12_sends_178 rfl (hK_330 hS) ((156 * b) + p) (by omega) (by omega) pI_at ?_
    refine r_ifne (tgt := 186) (pc2 := 182) dX12_sends_179 rfl (by decide) ⟨by omega, by omega⟩ (fun b_179 => ?_) (fun b_179 => ?_)
    · refine r_iconst (pc2 := 187) dX12_sends_186 rfl ?_
      refine r_ireti dX12_sends_187 rfl ?_
      have e0 : aSend pc sz tr st kd p l sh = (if (sh p + 1) % sz p = 0 then 1 else 0, va_up sh p ((sh p + 1) % sz p)) := by unfold aSend; rw [if_neg (by omega), if_neg (by omega), if_neg (by omega), if_neg (by omega), if_neg (by omega), if_pos sw16_7]
      rw [e0]
      refine ⟨?_, fr.I fr.rf (by decide), ?_⟩
      · first | rfl | (rw [if_pos (by omega)]) | (rw [if_neg (by omega)])
      · rw [pI_eq, ← sB_up hp, ← sB_of hB.2.2.1]
    · refine r_iconst (pc2 := 183) dX12_sends_182 rfl ?_
      refine r_goto (tgt := 187) dX12_sends_183 (by decide) ?_
      refine r_ireti dX12_sends_187 rfl ?_
      have e0 : aSend pc sz tr st kd p l sh = (if (sh p + 1) % sz p = 0 then 1 else 0, va_up sh p ((sh p + 1) % sz p)) := by unfold aSend; rw [if_neg (by omega), if_neg (by omega), if_neg (by omega), if_neg (by omega), if_neg (by omega), if_pos sw16_7]
      rw [e0]
      refine ⟨?_, fr.I fr.rf (by decide), ?_⟩
      · first | rfl | (rw [if_pos (by omega)]) | (rw [if_neg (by omega)])
      · rw [pI_eq, ← sB_up hp, ← sB_of hB.2.2.1]
  by_cases sw16_8 : (pc p) = 8
  · refine r_tabIn (tgt := 217) dX12_sends_16 ⟨by omega, by omega⟩ 7 (by omega) (by omega) rfl (by decide) ?_
    refine r_iconst (pc2 := 218) dX12_sends_217 rfl ?_
    refine r_ireti dX12_sends_218 rfl ?_
    have e0 : aSend pc sz tr st kd p l sh = (2, sh) := by unfold aSend; rw [if_neg (by omega), if_neg (by omega), if_neg (by omega), if_neg (by omega), if_neg (by omega), if_neg (by omega), if_neg (by omega)]
    rw [e0]
    exact ⟨rfl, fr.rf, sB_of hB.2.2.1⟩
  by_cases sw16_9 : (pc p) = 9
  · refine r_tabIn (tgt := 188) dX12_sends_16 ⟨by omega, by omega⟩ 8 (by omega) (by omega) rfl (by decide) ?_
    refine r_aload0 (pc2 := 189) dX12_sends_188 rfl ?_
    refine r_getR (pc2 := 192) dX12_sends_189 rfl fX12_92 (hK_317 hS) (hR_317_19 hS) ?_
    refine r_iload7 (pc2 := 194) dX12_sends_192 rfl ?_
    refine r_iald (z := (sh p)) (pc2 := 195) dX12_sends_194 rfl (hK_330 hS) ((156 * b) + p) (by omega) (by omega) q3 ?_
    refine r_istore9 (pc2 := 197) dX12_sends_195 rfl rfl ?_
    refine r_aload0 (pc2 := 198) dX12_sends_197 rfl ?_
    refine r_getR (pc2 := 201) dX12_sends_198 rfl fX12_92 (hK_317 hS) (hR_317_19 hS) ?_
    refine r_iload7 (pc2 := 203) dX12_sends_201 rfl ?_
    refine r_iload5 (pc2 := 205) dX12_sends_203 rfl ?_
    refine r_ifeq (tgt := 212) (pc2 := 208) dX12_sends_205 rfl (by decide) ⟨by omega, by omega⟩ (fun b_205 => ?_) (fun b_205 => ?_)
    · refine r_iconst (pc2 := 213) dX12_sends_212 rfl ?_
      refine r_iast (z := 0) (pc2 := 214) dX12_sends_213 rfl (hK_330 hS) (by decide) ((156 * b) + p) (by omega) (by omega) ?_
      refine r_iload9 (pc2 := 216) dX12_sends_214 rfl ?_
      refine r_ireti dX12_sends_216 rfl ?_
      have e0 : aSend pc sz tr st kd p l sh = (sh p, va_up sh p l) := by unfold aSend; rw [if_neg (by omega), if_neg (by omega), if_neg (by omega), if_neg (by omega), if_neg (by omega), if_neg (by omega), if_pos sw16_9]
      rw [e0]
      refine ⟨rfl, fr.I fr.rf (by decide), ?_⟩
      rw [pI_eq, ← sB_up hp, ← sB_of hB.2.2.1]
      first | rfl | (congr 1; omega)
    · refine r_iconst (pc2 := 209) dX12_sends_208 rfl ?_
      refine r_goto (tgt := 213) dX12_sends_209 (by decide) ?_
      refine r_iast (z := 1) (pc2 := 214) dX12_sends_213 rfl (hK_330 hS) (by decide) ((156 * b) + p) (by omega) (by omega) ?_
      refine r_iload9 (pc2 := 216) dX12_sends_214 rfl ?_
      refine r_ireti dX12_sends_216 rfl ?_
      have e0 : aSend pc sz tr st kd p l sh = (sh p, va_up sh p l) := by unfold aSend; rw [if_neg (by omega), if_neg (by omega), if_neg (by omega), if_neg (by omega), if_neg (by omega), if_neg (by omega), if_pos sw16_9]
      rw [e0]
      refine ⟨rfl, fr.I fr.rf (by decide), ?_⟩
      rw [pI_eq, ← sB_up hp, ← sB_of hB.2.2.1]
      first | rfl | (congr 1; omega)
  refine r_tabOut (tgt := 217) dX12_sends_16 ⟨by omega, by omega⟩ (by omega) (by decide) ?_
  refine r_iconst (pc2 := 218) dX12_sends_217 rfl ?_
  refine r_ireti dX12_sends_218 rfl ?_
  have e0 : aSend pc sz tr st kd p l sh = (2, sh) := by unfold aSend; rw [if_neg (by omega), if_neg (by omega), if_neg (by omega), if_neg (by omega), if_neg (by omega), if_neg (by omega), if_neg (by omega)]
  rw [e0]
  exact ⟨rfl, fr.rf, sB_of hB.2.2.1⟩
set_option maxHeartbeats 8000000 in
theorem lp_X12_drops {d : Nat} {Q : pQ} {b s h : Nat} {st kd : Int} {pc sz tr : Nat → Int} (M0 : pM) (F : Int × (Nat → Int)) (hS0 : sOk M0.1) (hb : b < 28) (hs : s < 2) (hh : h < 4) (hst : -2 ≤ st ∧ st < 156) (hkd : M0.2.1 333 (4 * b + h) = kd) (hkr : inR kd)
    (hQ : ∀ M2, fr [330] M0 M2 → M2.2.1 330 = sB (M0.2.1 330) 156 b F.2 → Q (some (.int (iI F.1))) M2) :
    ∀ (n x : Nat) (l : Int) (sh : Nat → Int) (M : pM) (x8 x9 x10 : Option Value), n ≤ 12 → x < 13 → (l = 0 ∨ l = 1) → fr [330] M0 M → M.2.1 330 = sB (M0.2.1 330) 156 b sh → mBd M b s pc sz tr sh → aDr pc sz tr st kd n x l sh = F → Go (Ct (d + 2)) Q yX12_drops cX12_drops (some .int) 0 0 28 [some (.ref 317), some (.int (iI ((b : Nat) : Int))), some (.int (iI ((s : Nat) : Int))), some (.int (iI ((h : Nat) : Int))), some (.int (iI st)), some (.int (iI ((x : Nat) : Int))), some (.int (iI l)), some (.int (iI ((12 - n : Nat) : Int))), x8, x9, x10] [] M := by
  intro n
  induction n with
  | zero =>
    intro x l sh M x8 x9 x10 hn hx hl hf hm hB hF
    have hS := hf.ok hS0
    refine r_iload7 (pc2 := 30) dX12_drops_28 rfl ?_
    refine r_bipush (pc2 := 32) dX12_drops_30 rfl (by decide) (by decide) ?_
    refine r_icge (tgt := 196) (pc2 := 35) dX12_drops_32 rfl (by decide) ⟨by omega, by omega⟩ ⟨by omega, by omega⟩ (fun b_32 => ?_) (fun b_32 => ?_)
    · refine r_iload5 (pc2 := 198) dX12_drops_196 rfl ?_
      refine r_ireti dX12_drops_198 rfl ?_
      have e1 : F.1 = (x : Int) := by rw [← hF]; rfl
      have e2 : F.2 = sh := by rw [← hF]; rfl
      have := hQ M hf (by rw [e2]; exact hm)
      rw [e1] at this
      exact this
    · exact absurd b_32 (by omega)
  | succ n ih =>
    intro x l sh M x8 x9 x10 hn hx hl hf hm hB hF
    have hS := hf.ok hS0
    have hn2 : 12 - (n + 1) = 11 - n := by omega
    rw [hn2]
    have hp : 13 * (11 - n) + x < 156 := by omega
    have q1 : M.2.1 328 (156 * b + (13 * (11 - n) + x)) = pc (13 * (11 - n) + x) := hB.1 _ hp
    have w1 := (hB.2.2.2.2 _ hp).1
    have q333 : M.2.1 333 (4 * b + h) = kd := by rw [hf.i (by decide)]; exact hkd
    have hs2 := aSend_wf (tr := tr) (st := st) (kd := kd) (l := l) hB.2.2.2.2 hp hl
    unfold aDr at hF
    refine r_iload7 (pc2 := 30) dX12_drops_28 rfl ?_
    refine r_bipush (pc2 := 32) dX12_drops_30 rfl (by decide) (by decide) ?_
    refine r_icge (tgt := 196) (pc2 := 35) dX12_drops_32 rfl (by decide) ⟨by omega, by omega⟩ ⟨by omega, by omega⟩ (fun b_32 => ?_) (fun b_32 => ?_)
    · refine r_iload5 (pc2 := 198) dX12_drops_196 rfl ?_
      refine r_ireti dX12_drops_198 rfl ?_
      exact absurd b_32 (by omega)
    · refine r_bipush (pc2 := 37) dX12_drops_35 rfl (by decide) (by decide) ?_
      refine r_iload7 (pc2 := 39) dX12_drops_37 rfl ?_
      refine r_imul (c := (13 * ((11 - n : Nat) : Int))) (pc2 := 40) dX12_drops_39 rfl rfl ?_
      refine r_iload5 (pc2 := 42) dX12_drops_40 rfl ?_
      refine r_iadd (c := ((13 * (11 - n) + x : Nat) : Int)) (pc2 := 43) dX12_drops_42 rfl (by omega) ?_
      refine r_istore8 (pc2 := 45) dX12_drops_43 rfl rfl ?_
      refine r_aload0 (pc2 := 46) dX12_drops_45 rfl ?_
      refine r_getR (pc2 := 49) dX12_drops_46 rfl fX12_86 (hK_317 hS) (hR_317_17 hS) ?_
      refine r_sipush (pc2 := 52) dX12_drops_49 rfl (by decide) (by decide) ?_
      refine r_iload1 (pc2 := 53) dX12_drops_52 rfl ?_
      refine r_imul (c := (156 * ((b : Nat) : Int))) (pc2 := 54) dX12_drops_53 rfl rfl ?_
      refine r_iload8 (pc2 := 56) dX12_drops_54 rfl ?_
      refine r_iadd (c := ((156 * ((b : Nat) : Int)) + ((13 * (11 - n) + x : Nat) : Int))) (pc2 := 57) dX12_drops_56 rfl rfl ?_
      refine r_iald (z := (pc (13 * (11 - n) + x))) (pc2 := 58) dX12_drops_57 rfl (hK_328 hS) ((156 * b) + (13 * (11 - n) + x)) (by omega) (by omega) q1 ?_
      refine r_istore9 (pc2 := 60) dX12_drops_58 rfl rfl ?_
      refine r_iload9 (pc2 := 62) dX12_drops_60 rfl ?_
      refine r_iconst (pc2 := 63) dX12_drops_62 rfl ?_
      refine r_iceq (tgt := 73) (pc2 := 66) dX12_drops_63 rfl (by decide) ⟨by omega, by omega⟩ ⟨by omega, by omega⟩ (fun b_63 => ?_) (fun b_63 => ?_)
      · refine r_bipush (pc2 := 75) dX12_drops_73 rfl (by decide) (by decide) ?_
        refine r_iload7 (pc2 := 77) dX12_drops_75 rfl ?_
        refine r_imul (c := (16 * ((11 - n : Nat) : Int))) (pc2 := 78) dX12_drops_77 rfl rfl ?_
        refine r_iload9 (pc2 := 80) dX12_drops_78 rfl ?_
        refine r_iconst (pc2 := 81) dX12_drops_80 rfl ?_
        refine r_icne (tgt := 90) (pc2 := 84) dX12_drops_81 rfl (by decide) ⟨by omega, by omega⟩ ⟨by omega, by omega⟩ (fun b_81 => ?_) (fun b_81 => ?_)
        · refine r_sipush (pc2 := 93) dX12_drops_90 rfl (by decide) (by decide) ?_
          refine r_iadd (c := ((16 * ((11 - n : Nat) : Int)) + 512)) (pc2 := 94) dX12_drops_93 rfl rfl ?_
          refine r_ireti dX12_drops_94 rfl ?_
          exact absurd b_81 (by omega)
        · refine r_sipush (pc2 := 87) dX12_drops_84 rfl (by decide) (by decide) ?_
          refine r_goto (tgt := 93) dX12_drops_87 (by decide) ?_
          refine r_iadd (c := ((16 * ((11 - n : Nat) : Int)) + 256)) (pc2 := 94) dX12_drops_93 rfl rfl ?_
          refine r_ireti dX12_drops_94 rfl ?_
          rw [if_pos (by omega)] at hF
          have := hQ M hf (by rw [← hF]; exact hm)
          rw [← hF] at this
          simp only at this
          rw [show (16 * ((11 - n : Nat) : Int)) + 256 = 256 + 16 * ((11 - n : Nat) : Int) by omega]
          exact this
      · refine r_iload9 (pc2 := 68) dX12_drops_66 rfl ?_
        refine r_bipush (pc2 := 70) dX12_drops_68 rfl (by decide) (by decide) ?_
        refine r_icne (tgt := 95) (pc2 := 73) dX12_drops_70 rfl (by decide) ⟨by omega, by omega⟩ ⟨by omega, by omega⟩ (fun b_70 => ?_) (fun b_70 => ?_)
        · refine r_aload0 (pc2 := 96) dX12_drops_95 rfl ?_
          refine r_iload1 (pc2 := 97) dX12_drops_96 rfl ?_
          refine r_iload2 (pc2 := 98) dX12_drops_97 rfl ?_
          refine r_iload8 (pc2 := 100) dX12_drops_98 rfl ?_
          refine r_aload0 (pc2 := 101) dX12_drops_100 rfl ?_
          refine r_getR (pc2 := 104) dX12_drops_101 rfl fX12_101 (hK_317 hS) (hR_317_22 hS) ?_
          refine r_iconst (pc2 := 105) dX12_drops_104 rfl ?_
          refine r_iload1 (pc2 := 106) dX12_drops_105 rfl ?_
          refine r_imul (c := (4 * ((b : Nat) : Int))) (pc2 := 107) dX12_drops_106 rfl rfl ?_
          refine r_iload3 (pc2 := 108) dX12_drops_107 rfl ?_
          refine r_iadd (c := ((4 * ((b : Nat) : Int)) + ((h : Nat) : Int))) (pc2 := 109) dX12_drops_108 rfl rfl ?_
          refine r_iald (z := kd) (pc2 := 110) dX12_drops_109 rfl (hK_333 hS) ((4 * b) + h) (by omega) (by omega) q333 ?_
          refine r_iload6 (pc2 := 112) dX12_drops_110 rfl ?_
          refine r_iload4 (pc2 := 114) dX12_drops_112 rfl ?_
          refine r_cv6 (pc2 := 117) dX12_drops_114 rfl vX12_302 (hK_317 hS) (by decide) (c_X12_sends (d := d) (pc := pc) (sz := sz) (tr := tr) (sh := sh) hS hb hs hp hkr hl hst hB) ?_
          rintro _ M9 ⟨rfl, hf9, he9⟩
          have hm9 : M9.2.1 330 = sB (M0.2.1 330) 156 b (aSend pc sz tr st kd (13 * (11 - n) + x) l sh).2 := by rw [he9, hm, sB_sB]
          have hB9 := hB.fr hf9 he9 hs2.1
          have hf0 := hf.tr hf9
          show Go (Ct (d + 2)) _ yX12_drops cX12_drops (some .int) 0 0 117 [some (.ref 317), some (.int (iI ((b : Nat) : Int))), some (.int (iI ((s : Nat) : Int))), some (.int (iI ((h : Nat) : Int))), some (.int (iI st)), some (.int (iI ((x : Nat) : Int))), some (.int (iI l)), some (.int (iI ((11 - n : Nat) : Int))), some (.int (iI ((13 * (11 - n) + x : Nat) : Int))), some (.int (iI (pc (13 * (11 - n) + x)))), x10] [.int (iI (aSend pc sz tr st kd (13 * (11 - n) + x) l sh).1)] M9
          refine r_istore10 (pc2 := 119) dX12_drops_117 rfl rfl ?_
          refine r_iload5 (pc2 := 121) dX12_drops_119 rfl ?_
          refine r_iload10 (pc2 := 123) dX12_drops_121 rfl ?_
          refine r_iconst (pc2 := 124) dX12_drops_123 rfl ?_
          refine r_icne (tgt := 131) (pc2 := 127) dX12_drops_124 rfl (by decide) ⟨by omega, by omega⟩ ⟨by omega, by omega⟩ (fun b_124 => ?_) (fun b_124 => ?_)
          · refine r_iload10 (pc2 := 133) dX12_drops_131 rfl ?_
            refine r_ifne (tgt := 140) (pc2 := 136) dX12_drops_133 rfl (by decide) ⟨by omega, by omega⟩ (fun b_133 => ?_) (fun b_133 => ?_)
            · refine r_iconst (pc2 := 141) dX12_drops_140 rfl ?_
              refine r_iadd (c := ((x + 1 : Nat) : Int)) (pc2 := 142) dX12_drops_141 rfl (by omega) ?_
              refine r_istore5 (pc2 := 144) dX12_drops_142 rfl rfl ?_
              refine r_iload10 (pc2 := 146) dX12_drops_144 rfl ?_
              refine r_iconst (pc2 := 147) dX12_drops_146 rfl ?_
              refine r_icne (tgt := 155) (pc2 := 150) dX12_drops_147 rfl (by decide) ⟨by omega, by omega⟩ ⟨by omega, by omega⟩ (fun b_147 => ?_) (fun b_147 => ?_)
              · refine r_iload10 (pc2 := 157) dX12_drops_155 rfl ?_
                refine r_iconst (pc2 := 158) dX12_drops_157 rfl ?_
                refine r_icne (tgt := 165) (pc2 := 161) dX12_drops_158 rfl (by decide) ⟨by omega, by omega⟩ ⟨by omega, by omega⟩ (fun b_158 => ?_) (fun b_158 => ?_)
                · refine r_iconst (pc2 := 166) dX12_drops_165 rfl ?_
                  refine r_istore6 (pc2 := 168) dX12_drops_166 rfl rfl ?_
                  refine r_iload5 (pc2 := 170) dX12_drops_168 rfl ?_
                  refine r_iflt (tgt := 180) (pc2 := 173) dX12_drops_170 rfl (by decide) ⟨by omega, by omega⟩ (fun b_170 => ?_) (fun b_170 => ?_)
                  · refine r_bipush (pc2 := 182) dX12_drops_180 rfl (by decide) (by decide) ?_
                    refine r_iload7 (pc2 := 184) dX12_drops_182 rfl ?_
                    refine r_imul (c := (16 * ((11 - n : Nat) : Int))) (pc2 := 185) dX12_drops_184 rfl rfl ?_
                    refine r_sipush (pc2 := 188) dX12_drops_185 rfl (by decide) (by decide) ?_
                    refine r_iadd (c := ((16 * ((11 - n : Nat) : Int)) + 768)) (pc2 := 189) dX12_drops_188 rfl rfl ?_
                    refine r_ireti dX12_drops_189 rfl ?_
                    exact absurd b_158 (by omega)
                  · refine r_iload5 (pc2 := 175) dX12_drops_173 rfl ?_
                    refine r_bipush (pc2 := 177) dX12_drops_175 rfl (by decide) (by decide) ?_
                    refine r_iclt (tgt := 190) (pc2 := 180) dX12_drops_177 rfl (by decide) ⟨by omega, by omega⟩ ⟨by omega, by omega⟩ (fun b_177 => ?_) (fun b_177 => ?_)
                    · refine r_iinc7 (z := ((12 - n : Nat) : Int)) (pc2 := 193) dX12_drops_190 rfl (by omega) rfl ?_
                      refine r_goto (tgt := 28) dX12_drops_193 (by decide) ?_
                      exact absurd b_158 (by omega)
                    · refine r_bipush (pc2 := 182) dX12_drops_180 rfl (by decide) (by decide) ?_
                      refine r_iload7 (pc2 := 184) dX12_drops_182 rfl ?_
                      refine r_imul (c := (16 * ((11 - n : Nat) : Int))) (pc2 := 185) dX12_drops_184 rfl rfl ?_
                      refine r_sipush (pc2 := 188) dX12_drops_185 rfl (by decide) (by decide) ?_
                      refine r_iadd (c := ((16 * ((11 - n : Nat) : Int)) + 768)) (pc2 := 189) dX12_drops_188 rfl rfl ?_
                      refine r_ireti dX12_drops_189 rfl ?_
                      exact absurd b_158 (by omega)
                · refine r_iconst (pc2 := 162) dX12_drops_161 rfl ?_
                  refine r_goto (tgt := 166) dX12_drops_162 (by decide) ?_
                  refine r_istore6 (pc2 := 168) dX12_drops_166 rfl rfl ?_
                  refine r_iload5 (pc2 := 170) dX12_drops_168 rfl ?_
                  refine r_iflt (tgt := 180) (pc2 := 173) dX12_drops_170 rfl (by decide) ⟨by omega, by omega⟩ (fun b_170 => ?_) (fun b_170 => ?_)
                  · refine r_bipush (pc2 := 182) dX12_drops_180 rfl (by decide) (by decide) ?_
                    refine r_iload7 (pc2 := 184) dX12_drops_182 rfl ?_
                    refine r_imul (c := (16 * ((11 - n : Nat) : Int))) (pc2 := 185) dX12_drops_184 rfl rfl ?_
                    refine r_sipush (pc2 := 188) dX12_drops_185 rfl (by decide) (by decide) ?_
                    refine r_iadd (c := ((16 * ((11 - n : Nat) : Int)) + 768)) (pc2 := 189) dX12_drops_188 rfl rfl ?_
                    refine r_ireti dX12_drops_189 rfl ?_
                    exact absurd b_170 (by omega)
                  · refine r_iload5 (pc2 := 175) dX12_drops_173 rfl ?_
                    refine r_bipush (pc2 := 177) dX12_drops_175 rfl (by decide) (by decide) ?_
                    refine r_iclt (tgt := 190) (pc2 := 180) dX12_drops_177 rfl (by decide) ⟨by omega, by omega⟩ ⟨by omega, by omega⟩ (fun b_177 => ?_) (fun b_177 => ?_)
                    · refine r_iinc7 (z := ((12 - n : Nat) : Int)) (pc2 := 193) dX12_drops_190 rfl (by omega) rfl ?_
                      refine r_goto (tgt := 28) dX12_drops_193 (by decide) ?_
                      rw [if_neg (by omega), if_neg (by omega), if_neg (by omega), if_neg (by omega), if_neg (by omega)] at hF
                      exact ih (x + 1) 1 _ M9 _ _ _ (by omega) (by omega) (Or.inr rfl) hf0 hm9 hB9 hF
                    · refine r_bipush (pc2 := 182) dX12_drops_180 rfl (by decide) (by decide) ?_
                      refine r_iload7 (pc2 := 184) dX12_drops_182 rfl ?_
                      refine r_imul (c := (16 * ((11 - n : Nat) : Int))) (pc2 := 185) dX12_drops_184 rfl rfl ?_
                      refine r_sipush (pc2 := 188) dX12_drops_185 rfl (by decide) (by decide) ?_
                      refine r_iadd (c := ((16 * ((11 - n : Nat) : Int)) + 768)) (pc2 := 189) dX12_drops_188 rfl rfl ?_
                      refine r_ireti dX12_drops_189 rfl ?_
                      rw [if_neg (by omega), if_neg (by omega), if_neg (by omega), if_neg (by omega), if_pos (by omega)] at hF
                      have := hQ M9 hf0 (by rw [← hF]; exact hm9)
                      rw [← hF] at this
                      simp only at this
                      rw [show (16 * ((11 - n : Nat) : Int)) + 768 = 768 + 16 * ((11 - n : Nat) : Int) by omega]
                      exact this
              · refine r_iload6 (pc2 := 152) dX12_drops_150 rfl ?_
                refine r_goto (tgt := 166) dX12_drops_152 (by decide) ?_
                refine r_istore6 (pc2 := 168) dX12_drops_166 rfl rfl ?_
                refine r_iload5 (pc2 := 170) dX12_drops_168 rfl ?_
                refine r_iflt (tgt := 180) (pc2 := 173) dX12_drops_170 rfl (by decide) ⟨by omega, by omega⟩ (fun b_170 => ?_) (fun b_170 => ?_)
                · refine r_bipush (pc2 := 182) dX12_drops_180 rfl (by decide) (by decide) ?_
                  refine r_iload7 (pc2 := 184) dX12_drops_182 rfl ?_
                  refine r_imul (c := (16 * ((11 - n : Nat) : Int))) (pc2 := 185) dX12_drops_184 rfl rfl ?_
                  refine r_sipush (pc2 := 188) dX12_drops_185 rfl (by decide) (by decide) ?_
                  refine r_iadd (c := ((16 * ((11 - n : Nat) : Int)) + 768)) (pc2 := 189) dX12_drops_188 rfl rfl ?_
                  refine r_ireti dX12_drops_189 rfl ?_
                  exact absurd b_147 (by omega)
                · refine r_iload5 (pc2 := 175) dX12_drops_173 rfl ?_
                  refine r_bipush (pc2 := 177) dX12_drops_175 rfl (by decide) (by decide) ?_
                  refine r_iclt (tgt := 190) (pc2 := 180) dX12_drops_177 rfl (by decide) ⟨by omega, by omega⟩ ⟨by omega, by omega⟩ (fun b_177 => ?_) (fun b_177 => ?_)
                  · refine r_iinc7 (z := ((12 - n : Nat) : Int)) (pc2 := 193) dX12_drops_190 rfl (by omega) rfl ?_
                    refine r_goto (tgt := 28) dX12_drops_193 (by decide) ?_
                    exact absurd b_147 (by omega)
                  · refine r_bipush (pc2 := 182) dX12_drops_180 rfl (by decide) (by decide) ?_
                    refine r_iload7 (pc2 := 184) dX12_drops_182 rfl ?_
                    refine r_imul (c := (16 * ((11 - n : Nat) : Int))) (pc2 := 185) dX12_drops_184 rfl rfl ?_
                    refine r_sipush (pc2 := 188) dX12_drops_185 rfl (by decide) (by decide) ?_
                    refine r_iadd (c := ((16 * ((11 - n : Nat) : Int)) + 768)) (pc2 := 189) dX12_drops_188 rfl rfl ?_
                    refine r_ireti dX12_drops_189 rfl ?_
                    exact absurd b_147 (by omega)
            · refine r_iconst (pc2 := 137) dX12_drops_136 rfl ?_
              refine r_goto (tgt := 141) dX12_drops_137 (by decide) ?_
              refine r_iadd (c := (((x : Nat) : Int) + (-1))) (pc2 := 142) dX12_drops_141 rfl rfl ?_
              refine r_istore5 (pc2 := 144) dX12_drops_142 rfl rfl ?_
              refine r_iload10 (pc2 := 146) dX12_drops_144 rfl ?_
              refine r_iconst (pc2 := 147) dX12_drops_146 rfl ?_
              refine r_icne (tgt := 155) (pc2 := 150) dX12_drops_147 rfl (by decide) ⟨by omega, by omega⟩ ⟨by omega, by omega⟩ (fun b_147 => ?_) (fun b_147 => ?_)
              · refine r_iload10 (pc2 := 157) dX12_drops_155 rfl ?_
                refine r_iconst (pc2 := 158) dX12_drops_157 rfl ?_
                refine r_icne (tgt := 165) (pc2 := 161) dX12_drops_158 rfl (by decide) ⟨by omega, by omega⟩ ⟨by omega, by omega⟩ (fun b_158 => ?_) (fun b_158 => ?_)
                · refine r_iconst (pc2 := 166) dX12_drops_165 rfl ?_
                  refine r_istore6 (pc2 := 168) dX12_drops_166 rfl rfl ?_
                  refine r_iload5 (pc2 := 170) dX12_drops_168 rfl ?_
                  refine r_iflt (tgt := 180) (pc2 := 173) dX12_drops_170 rfl (by decide) ⟨by omega, by omega⟩ (fun b_170 => ?_) (fun b_170 => ?_)
                  · refine r_bipush (pc2 := 182) dX12_drops_180 rfl (by decide) (by decide) ?_
                    refine r_iload7 (pc2 := 184) dX12_drops_182 rfl ?_
                    refine r_imul (c := (16 * ((11 - n : Nat) : Int))) (pc2 := 185) dX12_drops_184 rfl rfl ?_
                    refine r_sipush (pc2 := 188) dX12_drops_185 rfl (by decide) (by decide) ?_
                    refine r_iadd (c := ((16 * ((11 - n : Nat) : Int)) + 768)) (pc2 := 189) dX12_drops_188 rfl rfl ?_
                    refine r_ireti dX12_drops_189 rfl ?_
                    rw [if_neg (by omega), if_neg (by omega), if_neg (by omega), if_pos (by omega), if_pos (by omega)] at hF
                    have := hQ M9 hf0 (by rw [← hF]; exact hm9)
                    rw [← hF] at this
                    simp only at this
                    rw [show (16 * ((11 - n : Nat) : Int)) + 768 = 768 + 16 * ((11 - n : Nat) : Int) by omega]
                    exact this
                  · refine r_iload5 (pc2 := 175) dX12_drops_173 rfl ?_
                    refine r_bipush (pc2 := 177) dX12_drops_175 rfl (by decide) (by decide) ?_
                    refine r_iclt (tgt := 190) (pc2 := 180) dX12_drops_177 rfl (by decide) ⟨by omega, by omega⟩ ⟨by omega, by omega⟩ (fun b_177 => ?_) (fun b_177 => ?_)
                    · refine r_iinc7 (z := ((12 - n : Nat) : Int)) (pc2 := 193) dX12_drops_190 rfl (by omega) rfl ?_
                      refine r_goto (tgt := 28) dX12_drops_193 (by decide) ?_
                      rw [if_neg (by omega), if_neg (by omega), if_neg (by omega), if_pos (by omega), if_neg (by omega)] at hF
                      rw [show ((x : Nat) : Int) + (-1) = ((x - 1 : Nat) : Int) by omega]
                      exact ih (x - 1) 0 _ M9 _ _ _ (by omega) (by omega) (Or.inl rfl) hf0 hm9 hB9 hF
                    · refine r_bipush (pc2 := 182) dX12_drops_180 rfl (by decide) (by decide) ?_
                      refine r_iload7 (pc2 := 184) dX12_drops_182 rfl ?_
                      refine r_imul (c := (16 * ((11 - n : Nat) : Int))) (pc2 := 185) dX12_drops_184 rfl rfl ?_
                      refine r_sipush (pc2 := 188) dX12_drops_185 rfl (by decide) (by decide) ?_
                      refine r_iadd (c := ((16 * ((11 - n : Nat) : Int)) + 768)) (pc2 := 189) dX12_drops_188 rfl rfl ?_
                      refine r_ireti dX12_drops_189 rfl ?_
                      exact absurd b_177 (by omega)
                · refine r_iconst (pc2 := 162) dX12_drops_161 rfl ?_
                  refine r_goto (tgt := 166) dX12_drops_162 (by decide) ?_
                  refine r_istore6 (pc2 := 168) dX12_drops_166 rfl rfl ?_
                  refine r_iload5 (pc2 := 170) dX12_drops_168 rfl ?_
                  refine r_iflt (tgt := 180) (pc2 := 173) dX12_drops_170 rfl (by decide) ⟨by omega, by omega⟩ (fun b_170 => ?_) (fun b_170 => ?_)
                  · refine r_bipush (pc2 := 182) dX12_drops_180 rfl (by decide) (by decide) ?_
                    refine r_iload7 (pc2 := 184) dX12_drops_182 rfl ?_
                    refine r_imul (c := (16 * ((11 - n : Nat) : Int))) (pc2 := 185) dX12_drops_184 rfl rfl ?_
                    refine r_sipush (pc2 := 188) dX12_drops_185 rfl (by decide) (by decide) ?_
                    refine r_iadd (c := ((16 * ((11 - n : Nat) : Int)) + 768)) (pc2 := 189) dX12_drops_188 rfl rfl ?_
                    refine r_ireti dX12_drops_189 rfl ?_
                    exact absurd b_158 (by omega)
                  · refine r_iload5 (pc2 := 175) dX12_drops_173 rfl ?_
                    refine r_bipush (pc2 := 177) dX12_drops_175 rfl (by decide) (by decide) ?_
                    refine r_iclt (tgt := 190) (pc2 := 180) dX12_drops_177 rfl (by decide) ⟨by omega, by omega⟩ ⟨by omega, by omega⟩ (fun b_177 => ?_) (fun b_177 => ?_)
                    · refine r_iinc7 (z := ((12 - n : Nat) : Int)) (pc2 := 193) dX12_drops_190 rfl (by omega) rfl ?_
                      refine r_goto (tgt := 28) dX12_drops_193 (by decide) ?_
                      exact absurd b_158 (by omega)
                    · refine r_bipush (pc2 := 182) dX12_drops_180 rfl (by decide) (by decide) ?_
                      refine r_iload7 (pc2 := 184) dX12_drops_182 rfl ?_
                      refine r_imul (c := (16 * ((11 - n : Nat) : Int))) (pc2 := 185) dX12_drops_184 rfl rfl ?_
                      refine r_sipush (pc2 := 188) dX12_drops_185 rfl (by decide) (by decide) ?_
                      refine r_iadd (c := ((16 * ((11 - n : Nat) : Int)) + 768)) (pc2 := 189) dX12_drops_188 rfl rfl ?_
                      refine r_ireti dX12_drops_189 rfl ?_
                      exact absurd b_158 (by omega)
              · refine r_iload6 (pc2 := 152) dX12_drops_150 rfl ?_
                refine r_goto (tgt := 166) dX12_drops_152 (by decide) ?_
                refine r_istore6 (pc2 := 168) dX12_drops_166 rfl rfl ?_
                refine r_iload5 (pc2 := 170) dX12_drops_168 rfl ?_
                refine r_iflt (tgt := 180) (pc2 := 173) dX12_drops_170 rfl (by decide) ⟨by omega, by omega⟩ (fun b_170 => ?_) (fun b_170 => ?_)
                · refine r_bipush (pc2 := 182) dX12_drops_180 rfl (by decide) (by decide) ?_
                  refine r_iload7 (pc2 := 184) dX12_drops_182 rfl ?_
                  refine r_imul (c := (16 * ((11 - n : Nat) : Int))) (pc2 := 185) dX12_drops_184 rfl rfl ?_
                  refine r_sipush (pc2 := 188) dX12_drops_185 rfl (by decide) (by decide) ?_
                  refine r_iadd (c := ((16 * ((11 - n : Nat) : Int)) + 768)) (pc2 := 189) dX12_drops_188 rfl rfl ?_
                  refine r_ireti dX12_drops_189 rfl ?_
                  exact absurd b_147 (by omega)
                · refine r_iload5 (pc2 := 175) dX12_drops_173 rfl ?_
                  refine r_bipush (pc2 := 177) dX12_drops_175 rfl (by decide) (by decide) ?_
                  refine r_iclt (tgt := 190) (pc2 := 180) dX12_drops_177 rfl (by decide) ⟨by omega, by omega⟩ ⟨by omega, by omega⟩ (fun b_177 => ?_) (fun b_177 => ?_)
                  · refine r_iinc7 (z := ((12 - n : Nat) : Int)) (pc2 := 193) dX12_drops_190 rfl (by omega) rfl ?_
                    refine r_goto (tgt := 28) dX12_drops_193 (by decide) ?_
                    exact absurd b_147 (by omega)
                  · refine r_bipush (pc2 := 182) dX12_drops_180 rfl (by decide) (by decide) ?_
                    refine r_iload7 (pc2 := 184) dX12_drops_182 rfl ?_
                    refine r_imul (c := (16 * ((11 - n : Nat) : Int))) (pc2 := 185) dX12_drops_184 rfl rfl ?_
                    refine r_sipush (pc2 := 188) dX12_drops_185 rfl (by decide) (by decide) ?_
                    refine r_iadd (c := ((16 * ((11 - n : Nat) : Int)) + 768)) (pc2 := 189) dX12_drops_188 rfl rfl ?_
                    refine r_ireti dX12_drops_189 rfl ?_
                    exact absurd b_147 (by omega)
          · refine r_iconst (pc2 := 128) dX12_drops_127 rfl ?_
            refine r_goto (tgt := 141) dX12_drops_128 (by decide) ?_
            refine r_iadd (c := ((x : Nat) : Int)) (pc2 := 142) dX12_drops_141 rfl (by omega) ?_
            refine r_istore5 (pc2 := 144) dX12_drops_142 rfl rfl ?_
            refine r_iload10 (pc2 := 146) dX12_drops_144 rfl ?_
            refine r_iconst (pc2 := 147) dX12_drops_146 rfl ?_
            refine r_icne (tgt := 155) (pc2 := 150) dX12_drops_147 rfl (by decide) ⟨by omega, by omega⟩ ⟨by omega, by omega⟩ (fun b_147 => ?_) (fun b_147 => ?_)
            · refine r_iload10 (pc2 := 157) dX12_drops_155 rfl ?_
              refine r_iconst (pc2 := 158) dX12_drops_157 rfl ?_
              refine r_icne (tgt := 165) (pc2 := 161) dX12_drops_158 rfl (by decide) ⟨by omega, by omega⟩ ⟨by omega, by omega⟩ (fun b_158 => ?_) (fun b_158 => ?_)
              · refine r_iconst (pc2 := 166) dX12_drops_165 rfl ?_
                refine r_istore6 (pc2 := 168) dX12_drops_166 rfl rfl ?_
                refine r_iload5 (pc2 := 170) dX12_drops_168 rfl ?_
                refine r_iflt (tgt := 180) (pc2 := 173) dX12_drops_170 rfl (by decide) ⟨by omega, by omega⟩ (fun b_170 => ?_) (fun b_170 => ?_)
                · refine r_bipush (pc2 := 182) dX12_drops_180 rfl (by decide) (by decide) ?_
                  refine r_iload7 (pc2 := 184) dX12_drops_182 rfl ?_
                  refine r_imul (c := (16 * ((11 - n : Nat) : Int))) (pc2 := 185) dX12_drops_184 rfl rfl ?_
                  refine r_sipush (pc2 := 188) dX12_drops_185 rfl (by decide) (by decide) ?_
                  refine r_iadd (c := ((16 * ((11 - n : Nat) : Int)) + 768)) (pc2 := 189) dX12_drops_188 rfl rfl ?_
                  refine r_ireti dX12_drops_189 rfl ?_
                  exact absurd b_147 (by omega)
                · refine r_iload5 (pc2 := 175) dX12_drops_173 rfl ?_
                  refine r_bipush (pc2 := 177) dX12_drops_175 rfl (by decide) (by decide) ?_
                  refine r_iclt (tgt := 190) (pc2 := 180) dX12_drops_177 rfl (by decide) ⟨by omega, by omega⟩ ⟨by omega, by omega⟩ (fun b_177 => ?_) (fun b_177 => ?_)
                  · refine r_iinc7 (z := ((12 - n : Nat) : Int)) (pc2 := 193) dX12_drops_190 rfl (by omega) rfl ?_
                    refine r_goto (tgt := 28) dX12_drops_193 (by decide) ?_
                    exact absurd b_147 (by omega)
                  · refine r_bipush (pc2 := 182) dX12_drops_180 rfl (by decide) (by decide) ?_
                    refine r_iload7 (pc2 := 184) dX12_drops_182 rfl ?_
                    refine r_imul (c := (16 * ((11 - n : Nat) : Int))) (pc2 := 185) dX12_drops_184 rfl rfl ?_
                    refine r_sipush (pc2 := 188) dX12_drops_185 rfl (by decide) (by decide) ?_
                    refine r_iadd (c := ((16 * ((11 - n : Nat) : Int)) + 768)) (pc2 := 189) dX12_drops_188 rfl rfl ?_
                    refine r_ireti dX12_drops_189 rfl ?_
                    exact absurd b_147 (by omega)
              · refine r_iconst (pc2 := 162) dX12_drops_161 rfl ?_
                refine r_goto (tgt := 166) dX12_drops_162 (by decide) ?_
                refine r_istore6 (pc2 := 168) dX12_drops_166 rfl rfl ?_
                refine r_iload5 (pc2 := 170) dX12_drops_168 rfl ?_
                refine r_iflt (tgt := 180) (pc2 := 173) dX12_drops_170 rfl (by decide) ⟨by omega, by omega⟩ (fun b_170 => ?_) (fun b_170 => ?_)
                · refine r_bipush (pc2 := 182) dX12_drops_180 rfl (by decide) (by decide) ?_
                  refine r_iload7 (pc2 := 184) dX12_drops_182 rfl ?_
                  refine r_imul (c := (16 * ((11 - n : Nat) : Int))) (pc2 := 185) dX12_drops_184 rfl rfl ?_
                  refine r_sipush (pc2 := 188) dX12_drops_185 rfl (by decide) (by decide) ?_
                  refine r_iadd (c := ((16 * ((11 - n : Nat) : Int)) + 768)) (pc2 := 189) dX12_drops_188 rfl rfl ?_
                  refine r_ireti dX12_drops_189 rfl ?_
                  exact absurd b_147 (by omega)
                · refine r_iload5 (pc2 := 175) dX12_drops_173 rfl ?_
                  refine r_bipush (pc2 := 177) dX12_drops_175 rfl (by decide) (by decide) ?_
                  refine r_iclt (tgt := 190) (pc2 := 180) dX12_drops_177 rfl (by decide) ⟨by omega, by omega⟩ ⟨by omega, by omega⟩ (fun b_177 => ?_) (fun b_177 => ?_)
                  · refine r_iinc7 (z := ((12 - n : Nat) : Int)) (pc2 := 193) dX12_drops_190 rfl (by omega) rfl ?_
                    refine r_goto (tgt := 28) dX12_drops_193 (by decide) ?_
                    exact absurd b_147 (by omega)
                  · refine r_bipush (pc2 := 182) dX12_drops_180 rfl (by decide) (by decide) ?_
                    refine r_iload7 (pc2 := 184) dX12_drops_182 rfl ?_
                    refine r_imul (c := (16 * ((11 - n : Nat) : Int))) (pc2 := 185) dX12_drops_184 rfl rfl ?_
                    refine r_sipush (pc2 := 188) dX12_drops_185 rfl (by decide) (by decide) ?_
                    refine r_iadd (c := ((16 * ((11 - n : Nat) : Int)) + 768)) (pc2 := 189) dX12_drops_188 rfl rfl ?_
                    refine r_ireti dX12_drops_189 rfl ?_
                    exact absurd b_147 (by omega)
            · refine r_iload6 (pc2 := 152) dX12_drops_150 rfl ?_
              refine r_goto (tgt := 166) dX12_drops_152 (by decide) ?_
              refine r_istore6 (pc2 := 168) dX12_drops_166 rfl rfl ?_
              refine r_iload5 (pc2 := 170) dX12_drops_168 rfl ?_
              refine r_iflt (tgt := 180) (pc2 := 173) dX12_drops_170 rfl (by decide) ⟨by omega, by omega⟩ (fun b_170 => ?_) (fun b_170 => ?_)
              · refine r_bipush (pc2 := 182) dX12_drops_180 rfl (by decide) (by decide) ?_
                refine r_iload7 (pc2 := 184) dX12_drops_182 rfl ?_
                refine r_imul (c := (16 * ((11 - n : Nat) : Int))) (pc2 := 185) dX12_drops_184 rfl rfl ?_
                refine r_sipush (pc2 := 188) dX12_drops_185 rfl (by decide) (by decide) ?_
                refine r_iadd (c := ((16 * ((11 - n : Nat) : Int)) + 768)) (pc2 := 189) dX12_drops_188 rfl rfl ?_
                refine r_ireti dX12_drops_189 rfl ?_
                exact absurd b_170 (by omega)
              · refine r_iload5 (pc2 := 175) dX12_drops_173 rfl ?_
                refine r_bipush (pc2 := 177) dX12_drops_175 rfl (by decide) (by decide) ?_
                refine r_iclt (tgt := 190) (pc2 := 180) dX12_drops_177 rfl (by decide) ⟨by omega, by omega⟩ ⟨by omega, by omega⟩ (fun b_177 => ?_) (fun b_177 => ?_)
                · refine r_iinc7 (z := ((12 - n : Nat) : Int)) (pc2 := 193) dX12_drops_190 rfl (by omega) rfl ?_
                  refine r_goto (tgt := 28) dX12_drops_193 (by decide) ?_
                  rw [if_neg (by omega), if_neg (by omega), if_pos (by omega)] at hF
                  have e9 : (aSend pc sz tr st kd (13 * (11 - n) + x) l sh).2 = sh := aSend_2 ⟨by omega, hl, (hB.2.2.2.2 _ hp).2.2.2.2.1⟩
                  rw [e9] at hm9 hB9
                  exact ih x l sh M9 _ _ _ (by omega) hx hl hf0 hm9 hB9 hF
                · refine r_bipush (pc2 := 182) dX12_drops_180 rfl (by decide) (by decide) ?_
                  refine r_iload7 (pc2 := 184) dX12_drops_182 rfl ?_
                  refine r_imul (c := (16 * ((11 - n : Nat) : Int))) (pc2 := 185) dX12_drops_184 rfl rfl ?_
                  refine r_sipush (pc2 := 188) dX12_drops_185 rfl (by decide) (by decide) ?_
                  refine r_iadd (c := ((16 * ((11 - n : Nat) : Int)) + 768)) (pc2 := 189) dX12_drops_188 rfl rfl ?_
                  refine r_ireti dX12_drops_189 rfl ?_
                  exact absurd b_177 (by omega)
        · refine r_bipush (pc2 := 75) dX12_drops_73 rfl (by decide) (by decide) ?_
          refine r_iload7 (pc2 := 77) dX12_drops_75 rfl ?_
          refine r_imul (c := (16 * ((11 - n : Nat) : Int))) (pc2 := 78) dX12_drops_77 rfl rfl ?_
          refine r_iload9 (pc2 := 80) dX12_drops_78 rfl ?_
          refine r_iconst (pc2 := 81) dX12_drops_80 rfl ?_
          refine r_icne (tgt := 90) (pc2 := 84) dX12_drops_81 rfl (by decide) ⟨by omega, by omega⟩ ⟨by omega, by omega⟩ (fun b_81 => ?_) (fun b_81 => ?_)
          · refine r_sipush (pc2 := 93) dX12_drops_90 rfl (by decide) (by decide) ?_
            refine r_iadd (c := ((16 * ((11 - n : Nat) : Int)) + 512)) (pc2 := 94) dX12_drops_93 rfl rfl ?_
            refine r_ireti dX12_drops_94 rfl ?_
            rw [if_neg (by omega), if_pos (by omega)] at hF
            have := hQ M hf (by rw [← hF]; exact hm)
            rw [← hF] at this
            simp only at this
            rw [show (16 * ((11 - n : Nat) : Int)) + 512 = 512 + 16 * ((11 - n : Nat) : Int) by omega]
            exact this
          · refine r_sipush (pc2 := 87) dX12_drops_84 rfl (by decide) (by decide) ?_
            refine r_goto (tgt := 93) dX12_drops_87 (by decide) ?_
            refine r_iadd (c := ((16 * ((11 - n : Nat) : Int)) + 256)) (pc2 := 94) dX12_drops_93 rfl rfl ?_
            refine r_ireti dX12_drops_94 rfl ?_
            exact absurd b_81 (by omega)
set_option maxHeartbeats 4000000 in
theorem c_X12_drops {d : Nat} {M : pM} {b s h : Nat} {st kd : Int} {pc sz tr sh : Nat → Int} {x : Nat} (hS : sOk M.1) (hb : b < 28) (hs : s < 2) (hh : h < 4) (hst : -2 ≤ st ∧ st < 156) (hkd : M.2.1 333 (4 * b + h) = kd) (hkr : inR kd) (hx : M.2.1 332 (4 * b + h) = (x : Int)) (hx2 : x < 13) (hB : mBd M b s pc sz tr sh) : Ct (d + 3) 0 0 yX12_drops [.ref 317, .int (iI ((b : Nat) : Int)), .int (iI ((s : Nat) : Int)), .int (iI ((h : Nat) : Int)), .int (iI st)] M (fun v M2 => v = some (.int (iI (aDr pc sz tr st kd 12 x (if h % 2 = 0 then 1 else 0) sh).1)) ∧ fr [330] M M2 ∧ M2.2.1 330 = sB (M.2.1 330) 156 b (aDr pc sz tr st kd 12 x (if h % 2 = 0 then 1 else 0) sh).2) := by
  refine ct_in (d := (d + 2)) kX12_drops rfl (by decide) (Nat.le_of_ble_eq_true rfl) (by decide) ?_
  show Go (Ct (d + 2)) _ yX12_drops cX12_drops (some .int) 0 0 0 [some (.ref 317), some (.int (iI ((b : Nat) : Int))), some (.int (iI ((s : Nat) : Int))), some (.int (iI ((h : Nat) : Int))), some (.int (iI st)), none, none, none, none, none, none] [] M
  refine r_aload0 (pc2 := 1) dX12_drops_0 rfl ?_
  refine r_getR (pc2 := 4) dX12_drops_1 rfl fX12_98 (hK_317 hS) (hR_317_21 hS) ?_
  refine r_iconst (pc2 := 5) dX12_drops_4 rfl ?_
  refine r_iload1 (pc2 := 6) dX12_drops_5 rfl ?_
  refine r_imul (c := (4 * ((b : Nat) : Int))) (pc2 := 7) dX12_drops_6 rfl rfl ?_
  refine r_iload3 (pc2 := 8) dX12_drops_7 rfl ?_
  refine r_iadd (c := ((4 * ((b : Nat) : Int)) + ((h : Nat) : Int))) (pc2 := 9) dX12_drops_8 rfl rfl ?_
  refine r_iald (z := ((x : Nat) : Int)) (pc2 := 10) dX12_drops_9 rfl (hK_332 hS) ((4 * b) + h) (by omega) (by omega) hx ?_
  refine r_istore5 (pc2 := 12) dX12_drops_10 rfl rfl ?_
  refine r_iload3 (pc2 := 13) dX12_drops_12 rfl ?_
  refine r_iconst (pc2 := 14) dX12_drops_13 rfl ?_
  refine r_irem (pc2 := 15) dX12_drops_14 rfl (by omega) (by omega) (by omega) (by omega) ?_
  refine r_ifne (tgt := 22) (pc2 := 18) dX12_drops_15 rfl (by decide) ⟨by omega, by omega⟩ (fun b_15 => ?_) (fun b_15 => ?_)
  · refine r_iconst (pc2 := 23) dX12_drops_22 rfl ?_
    refine r_istore6 (pc2 := 25) dX12_drops_23 rfl rfl ?_
    refine r_iconst (pc2 := 26) dX12_drops_25 rfl ?_
    refine r_istore7 (pc2 := 28) dX12_drops_26 rfl rfl ?_
    exact lp_X12_drops M _ hS hb hs hh hst hkd hkr (fun M2 h1 h2 => ⟨rfl, h1, h2⟩) 12 x _ sh M none none none (by omega) hx2 (by omega) fr.rf (sB_of hB.2.2.1) hB (by first | rfl | (rw [if_pos (by omega)]) | (rw [if_neg (by omega)]))
  · refine r_iconst (pc2 := 19) dX12_drops_18 rfl ?_
    refine r_goto (tgt := 23) dX12_drops_19 (by decide) ?_
    refine r_istore6 (pc2 := 25) dX12_drops_23 rfl rfl ?_
    refine r_iconst (pc2 := 26) dX12_drops_25 rfl ?_
    refine r_istore7 (pc2 := 28) dX12_drops_26 rfl rfl ?_
    exact lp_X12_drops M _ hS hb hs hh hst hkd hkr (fun M2 h1 h2 => ⟨rfl, h1, h2⟩) 12 x _ sh M none none none (by omega) hx2 (by omega) fr.rf (sB_of hB.2.2.1) hB (by first | rfl | (rw [if_pos (by omega)]) | (rw [if_neg (by omega)]))
