/-! the model's copies -/
def cpK (f : Nat → Int) (w s t k : Nat) : Nat → Int := sB f w t (fun p => if p < k then f (w * s + p) else f (w * t + p))
theorem cpK_0 {f : Nat → Int} {w s t : Nat} : f = cpK f w s t 0 := sB_of (fun p _ => (if_neg (by omega)).symm)
theorem cpK_rd {f : Nat → Int} {w s t k : Nat} (hk : k < w) : cpK f w s t k (w * s + k) = f (w * s + k) := by
  by_cases e : s = t
  · subst e; unfold cpK; rw [sB_in hk, if_neg (by omega)]
  · have := gB_ne (f := f) (g := fun p => if p < k then f (w * s + p) else f (w * t + p)) (by omega) e k hk
    exact this
theorem cpK_st {f : Nat → Int} {w s t k : Nat} (hk : k < w) : va_up (cpK f w s t k) (w * t + k) (f (w * s + k)) = cpK f w s t (k + 1) := by
  unfold cpK
  rw [sB_up hk]
  refine sB_congr (fun p hp => ?_)
  by_cases e : p = k
  · subst e; rw [up_at, if_pos (by omega)]
  · rw [up_ne e]
    by_cases e2 : p < k
    · rw [if_pos e2, if_pos (by omega)]
    · rw [if_neg e2, if_neg (by omega)]
theorem cpK_w {f : Nat → Int} {w s t : Nat} : cpK f w s t w = sB f w t (gB f w s) := sB_congr (fun p hp => if_pos hp)
set_option maxHeartbeats 4000000 in
theorem lp1_copies {d : Nat} {Q : pQ} {s t : Nat} (M0 : pM) (hS0 : sOk M0.1) (hs : s < 28) (ht : t < 28) (hQ : ∀ M2 : pM, fr [328, 329, 330] M0 M2 → M2.2.1 328 = sB (M0.2.1 328) 156 t (gB (M0.2.1 328) 156 s) → M2.2.1 329 = sB (M0.2.1 329) 156 t (gB (M0.2.1 329) 156 s) → M2.2.1 330 = sB (M0.2.1 330) 156 t (gB (M0.2.1 330) 156 s) → Go (Ct d) Q yX12_copies cX12_copies none 0 0 87 [some (.ref 317), some (.int (iI ((s : Nat) : Int))), some (.int (iI ((t : Nat) : Int))), some (.int (iI ((156 : Nat) : Int)))] [] M2) :
    ∀ (n k : Nat) (M : pM), k + n = 156 → fr [328, 329, 330] M0 M → M.2.1 328 = cpK (M0.2.1 328) 156 s t k → M.2.1 329 = cpK (M0.2.1 329) 156 s t k → M.2.1 330 = cpK (M0.2.1 330) 156 s t k → Go (Ct d) Q yX12_copies cX12_copies none 0 0 2 [some (.ref 317), some (.int (iI ((s : Nat) : Int))), some (.int (iI ((t : Nat) : Int))), some (.int (iI ((k : Nat) : Int)))] [] M := by
  intro n
  induction n with
  | zero =>
    intro k M hn hfr h328 h329 h330
    have hS := hfr.ok hS0
    obtain rfl : k = 156 := by omega
    rw [cpK_w] at h328
    rw [cpK_w] at h329
    rw [cpK_w] at h330
    refine r_iload3 (pc2 := 3) dX12_copies_2 rfl ?_
    refine r_sipush (pc2 := 6) dX12_copies_3 rfl (by decide) (by decide) ?_
    refine r_icge (tgt := 87) (pc2 := 9) dX12_copies_6 rfl (by decide) ⟨by omega, by omega⟩ ⟨by omega, by omega⟩ (fun b_6 => ?_) (fun b_6 => ?_)
    · exact hQ M hfr h328 h329 h330
    · exact absurd b_6 (by omega)
  | succ n ih =>
    intro k M hn hfr h328 h329 h330
    have hS := hfr.ok hS0
    have r328 : M.2.1 328 (156 * s + k) = M0.2.1 328 (156 * s + k) := by rw [h328, cpK_rd (by omega)]
    have r329 : M.2.1 329 (156 * s + k) = M0.2.1 329 (156 * s + k) := by rw [h329, cpK_rd (by omega)]
    have r330 : M.2.1 330 (156 * s + k) = M0.2.1 330 (156 * s + k) := by rw [h330, cpK_rd (by omega)]
    refine r_iload3 (pc2 := 3) dX12_copies_2 rfl ?_
    refine r_sipush (pc2 := 6) dX12_copies_3 rfl (by decide) (by decide) ?_
    refine r_icge (tgt := 87) (pc2 := 9) dX12_copies_6 rfl (by decide) ⟨by omega, by omega⟩ ⟨by omega, by omega⟩ (fun b_6 => ?_) (fun b_6 => ?_)
    · exact absurd b_6 (by omega)
    · refine r_aload0 (pc2 := 10) dX12_copies_9 rfl ?_
      refine r_getR (pc2 := 13) dX12_copies_10 rfl fX12_86 (hK_317 hS) (hR_317_17 hS) ?_
      refine r_sipush (pc2 := 16) dX12_copies_13 rfl (by decide) (by decide) ?_
      refine r_iload2 (pc2 := 17) dX12_copies_16 rfl ?_
      refine r_imul (c := (156 * ((t : Nat) : Int))) (pc2 := 18) dX12_copies_17 rfl rfl ?_
      refine r_iload3 (pc2 := 19) dX12_copies_18 rfl ?_
      refine r_iadd (c := ((156 * ((t : Nat) : Int)) + ((k : Nat) : Int))) (pc2 := 20) dX12_copies_19 rfl rfl ?_
      refine r_aload0 (pc2 := 21) dX12_copies_20 rfl ?_
      refine r_getR (pc2 := 24) dX12_copies_21 rfl fX12_86 (hK_317 hS) (hR_317_17 hS) ?_
      refine r_sipush (pc2 := 27) dX12_copies_24 rfl (by decide) (by decide) ?_
      refine r_iload1 (pc2 := 28) dX12_copies_27 rfl ?_
      refine r_imul (c := (156 * ((s : Nat) : Int))) (pc2 := 29) dX12_copies_28 rfl rfl ?_
      refine r_iload3 (pc2 := 30) dX12_copies_29 rfl ?_
      refine r_iadd (c := ((156 * ((s : Nat) : Int)) + ((k : Nat) : Int))) (pc2 := 31) dX12_copies_30 rfl rfl ?_
      refine r_iald (z := (M0.2.1 328 (156 * s + k))) (pc2 := 32) dX12_copies_31 rfl (hK_328 hS) ((156 * s) + k) (by omega) (by omega) r328 ?_
      refine r_iast (z := (M0.2.1 328 (156 * s + k))) (pc2 := 33) dX12_copies_32 rfl (hK_328 hS) (by decide) ((156 * t) + k) (by omega) (by omega) ?_
      refine r_aload0 (pc2 := 34) dX12_copies_33 rfl ?_
      refine r_getR (pc2 := 37) dX12_copies_34 rfl fX12_89 (hK_317 hS) (hR_317_18 hS) ?_
      refine r_sipush (pc2 := 40) dX12_copies_37 rfl (by decide) (by decide) ?_
      refine r_iload2 (pc2 := 41) dX12_copies_40 rfl ?_
      refine r_imul (c := (156 * ((t : Nat) : Int))) (pc2 := 42) dX12_copies_41 rfl rfl ?_
      refine r_iload3 (pc2 := 43) dX12_copies_42 rfl ?_
      refine r_iadd (c := ((156 * ((t : Nat) : Int)) + ((k : Nat) : Int))) (pc2 := 44) dX12_copies_43 rfl rfl ?_
      refine r_aload0 (pc2 := 45) dX12_copies_44 rfl ?_
      refine r_getR (pc2 := 48) dX12_copies_45 rfl fX12_89 (hK_317 hS) (hR_317_18 hS) ?_
      refine r_sipush (pc2 := 51) dX12_copies_48 rfl (by decide) (by decide) ?_
      refine r_iload1 (pc2 := 52) dX12_copies_51 rfl ?_
      refine r_imul (c := (156 * ((s : Nat) : Int))) (pc2 := 53) dX12_copies_52 rfl rfl ?_
      refine r_iload3 (pc2 := 54) dX12_copies_53 rfl ?_
      refine r_iadd (c := ((156 * ((s : Nat) : Int)) + ((k : Nat) : Int))) (pc2 := 55) dX12_copies_54 rfl rfl ?_
      refine r_iald (z := (M0.2.1 329 (156 * s + k))) (pc2 := 56) dX12_copies_55 rfl (hK_329 hS) ((156 * s) + k) (by omega) (by omega) r329 ?_
      refine r_iast (z := (M0.2.1 329 (156 * s + k))) (pc2 := 57) dX12_copies_56 rfl (hK_329 hS) (by decide) ((156 * t) + k) (by omega) (by omega) ?_
      refine r_aload0 (pc2 := 58) dX12_copies_57 rfl ?_
      refine r_getR (pc2 := 61) dX12_copies_58 rfl fX12_92 (hK_317 hS) (hR_317_19 hS) ?_
      refine r_sipush (pc2 := 64) dX12_copies_61 rfl (by decide) (by decide) ?_
      refine r_iload2 (pc2 := 65) dX12_copies_64 rfl ?_
      refine r_imul (c := (156 * ((t : Nat) : Int))) (pc2 := 66) dX12_copies_65 rfl rfl ?_
      refine r_iload3 (pc2 := 67) dX12_copies_66 rfl ?_
      refine r_iadd (c := ((156 * ((t : Nat) : Int)) + ((k : Nat) : Int))) (pc2 := 68) dX12_copies_67 rfl rfl ?_
      refine r_aload0 (pc2 := 69) dX12_copies_68 rfl ?_
      refine r_getR (pc2 := 72) dX12_copies_69 rfl fX12_92 (hK_317 hS) (hR_317_19 hS) ?_
      refine r_sipush (pc2 := 75) dX12_copies_72 rfl (by decide) (by decide) ?_
      refine r_iload1 (pc2 := 76) dX12_copies_75 rfl ?_
      refine r_imul (c := (156 * ((s : Nat) : Int))) (pc2 := 77) dX12_copies_76 rfl rfl ?_
      refine r_iload3 (pc2 := 78) dX12_copies_77 rfl ?_
      refine r_iadd (c := ((156 * ((s : Nat) : Int)) + ((k : Nat) : Int))) (pc2 := 79) dX12_copies_78 rfl rfl ?_
      refine r_iald (z := (M0.2.1 330 (156 * s + k))) (pc2 := 80) dX12_copies_79 rfl (hK_330 hS) ((156 * s) + k) (by omega) (by omega) r330 ?_
      refine r_iast (z := (M0.2.1 330 (156 * s + k))) (pc2 := 81) dX12_copies_80 rfl (hK_330 hS) (by decide) ((156 * t) + k) (by omega) (by omega) ?_
      refine r_iinc3 (z := ((k + 1 : Nat) : Int)) (pc2 := 84) dX12_copies_81 rfl (by omega) rfl ?_
      refine r_goto (tgt := 2) dX12_copies_84 (by decide) ?_
      refine ih (k + 1) _ (by omega) (((hfr.I (by decide)).I (by decide)).I (by decide)) ?_ ?_ ?_
      · rw [pI_ne (by decide), pI_ne (by decide), pI_eq, h328, cpK_st (by omega)]
      · rw [pI_ne (by decide), pI_eq, pI_ne (by decide), h329, cpK_st (by omega)]
      · rw [pI_eq, pI_ne (by decide), pI_ne (by decide), h330, cpK_st (by omega)]
set_option maxHeartbeats 4000000 in
theorem lp2_copies {d : Nat} {Q : pQ} {s t : Nat} (M0 : pM) (hS0 : sOk M0.1) (hs : s < 28) (ht : t < 28) (hQ : ∀ M2 : pM, fr [331] M0 M2 → M2.2.1 331 = sB (M0.2.1 331) 13 t (gB (M0.2.1 331) 13 s) → Go (Ct d) Q yX12_copies cX12_copies none 0 0 123 [some (.ref 317), some (.int (iI ((s : Nat) : Int))), some (.int (iI ((t : Nat) : Int))), some (.int (iI ((13 : Nat) : Int)))] [] M2) :
    ∀ (n k : Nat) (M : pM), k + n = 13 → fr [331] M0 M → M.2.1 331 = cpK (M0.2.1 331) 13 s t k → Go (Ct d) Q yX12_copies cX12_copies none 0 0 89 [some (.ref 317), some (.int (iI ((s : Nat) : Int))), some (.int (iI ((t : Nat) : Int))), some (.int (iI ((k : Nat) : Int)))] [] M := by
  intro n
  induction n with
  | zero =>
    intro k M hn hfr h331
    have hS := hfr.ok hS0
    obtain rfl : k = 13 := by omega
    rw [cpK_w] at h331
    refine r_iload3 (pc2 := 90) dX12_copies_89 rfl ?_
    refine r_bipush (pc2 := 92) dX12_copies_90 rfl (by decide) (by decide) ?_
    refine r_icge (tgt := 123) (pc2 := 95) dX12_copies_92 rfl (by decide) ⟨by omega, by omega⟩ ⟨by omega, by omega⟩ (fun b_92 => ?_) (fun b_92 => ?_)
    · exact hQ M hfr h331
    · exact absurd b_92 (by omega)
  | succ n ih =>
    intro k M hn hfr h331
    have hS := hfr.ok hS0
    have r331 : M.2.1 331 (13 * s + k) = M0.2.1 331 (13 * s + k) := by rw [h331, cpK_rd (by omega)]
    refine r_iload3 (pc2 := 90) dX12_copies_89 rfl ?_
    refine r_bipush (pc2 := 92) dX12_copies_90 rfl (by decide) (by decide) ?_
    refine r_icge (tgt := 123) (pc2 := 95) dX12_copies_92 rfl (by decide) ⟨by omega, by omega⟩ ⟨by omega, by omega⟩ (fun b_92 => ?_) (fun b_92 => ?_)
    · exact absurd b_92 (by omega)
    · refine r_aload0 (pc2 := 96) dX12_copies_95 rfl ?_
      refine r_getR (pc2 := 99) dX12_copies_96 rfl fX12_95 (hK_317 hS) (hR_317_20 hS) ?_
      refine r_bipush (pc2 := 101) dX12_copies_99 rfl (by decide) (by decide) ?_
      refine r_iload2 (pc2 := 102) dX12_copies_101 rfl ?_
      refine r_imul (c := (13 * ((t : Nat) : Int))) (pc2 := 103) dX12_copies_102 rfl rfl ?_
      refine r_iload3 (pc2 := 104) dX12_copies_103 rfl ?_
      refine r_iadd (c := ((13 * ((t : Nat) : Int)) + ((k : Nat) : Int))) (pc2 := 105) dX12_copies_104 rfl rfl ?_
      refine r_aload0 (pc2 := 106) dX12_copies_105 rfl ?_
      refine r_getR (pc2 := 109) dX12_copies_106 rfl fX12_95 (hK_317 hS) (hR_317_20 hS) ?_
      refine r_bipush (pc2 := 111) dX12_copies_109 rfl (by decide) (by decide) ?_
      refine r_iload1 (pc2 := 112) dX12_copies_111 rfl ?_
      refine r_imul (c := (13 * ((s : Nat) : Int))) (pc2 := 113) dX12_copies_112 rfl rfl ?_
      refine r_iload3 (pc2 := 114) dX12_copies_113 rfl ?_
      refine r_iadd (c := ((13 * ((s : Nat) : Int)) + ((k : Nat) : Int))) (pc2 := 115) dX12_copies_114 rfl rfl ?_
      refine r_iald (z := (M0.2.1 331 (13 * s + k))) (pc2 := 116) dX12_copies_115 rfl (hK_331 hS) ((13 * s) + k) (by omega) (by omega) r331 ?_
      refine r_iast (z := (M0.2.1 331 (13 * s + k))) (pc2 := 117) dX12_copies_116 rfl (hK_331 hS) (by decide) ((13 * t) + k) (by omega) (by omega) ?_
      refine r_iinc3 (z := ((k + 1 : Nat) : Int)) (pc2 := 120) dX12_copies_117 rfl (by omega) rfl ?_
      refine r_goto (tgt := 89) dX12_copies_120 (by decide) ?_
      refine ih (k + 1) _ (by omega) (hfr.I (by decide)) ?_
      · rw [pI_eq, h331, cpK_st (by omega)]
set_option maxHeartbeats 4000000 in
theorem lp3_copies {d : Nat} {Q : pQ} {s t : Nat} (M0 : pM) (hS0 : sOk M0.1) (hs : s < 28) (ht : t < 28) (hQ : ∀ M2 : pM, fr [332, 333, 334] M0 M2 → M2.2.1 332 = sB (M0.2.1 332) 4 t (gB (M0.2.1 332) 4 s) → M2.2.1 333 = sB (M0.2.1 333) 4 t (gB (M0.2.1 333) 4 s) → M2.2.1 334 = sB (M0.2.1 334) 4 t (gB (M0.2.1 334) 4 s) → Q none M2) :
    ∀ (n k : Nat) (M : pM), k + n = 4 → fr [332, 333, 334] M0 M → M.2.1 332 = cpK (M0.2.1 332) 4 s t k → M.2.1 333 = cpK (M0.2.1 333) 4 s t k → M.2.1 334 = cpK (M0.2.1 334) 4 s t k → Go (Ct d) Q yX12_copies cX12_copies none 0 0 125 [some (.ref 317), some (.int (iI ((s : Nat) : Int))), some (.int (iI ((t : Nat) : Int))), some (.int (iI ((k : Nat) : Int)))] [] M := by
  intro n
  induction n with
  | zero =>
    intro k M hn hfr h332 h333 h334
    have hS := hfr.ok hS0
    obtain rfl : k = 4 := by omega
    rw [cpK_w] at h332
    rw [cpK_w] at h333
    rw [cpK_w] at h334
    refine r_iload3 (pc2 := 126) dX12_copies_125 rfl ?_
    refine r_iconst (pc2 := 127) dX12_copies_126 rfl ?_
    refine r_icge (tgt := 196) (pc2 := 130) dX12_copies_127 rfl (by decide) ⟨by omega, by omega⟩ ⟨by omega, by omega⟩ (fun b_127 => ?_) (fun b_127 => ?_)
    · refine r_ret dX12_copies_196 rfl ?_
      exact hQ M hfr h332 h333 h334
    · exact absurd b_127 (by omega)
  | succ n ih =>
    intro k M hn hfr h332 h333 h334
    have hS := hfr.ok hS0
    have r332 : M.2.1 332 (4 * s + k) = M0.2.1 332 (4 * s + k) := by rw [h332, cpK_rd (by omega)]
    have r333 : M.2.1 333 (4 * s + k) = M0.2.1 333 (4 * s + k) := by rw [h333, cpK_rd (by omega)]
    have r334 : M.2.1 334 (4 * s + k) = M0.2.1 334 (4 * s + k) := by rw [h334, cpK_rd (by omega)]
    refine r_iload3 (pc2 := 126) dX12_copies_125 rfl ?_
    refine r_iconst (pc2 := 127) dX12_copies_126 rfl ?_
    refine r_icge (tgt := 196) (pc2 := 130) dX12_copies_127 rfl (by decide) ⟨by omega, by omega⟩ ⟨by omega, by omega⟩ (fun b_127 => ?_) (fun b_127 => ?_)
    · refine r_ret dX12_copies_196 rfl ?_
      exact absurd b_127 (by omega)
    · refine r_aload0 (pc2 := 131) dX12_copies_130 rfl ?_
      refine r_getR (pc2 := 134) dX12_copies_131 rfl fX12_98 (hK_317 hS) (hR_317_21 hS) ?_
      refine r_iconst (pc2 := 135) dX12_copies_134 rfl ?_
      refine r_iload2 (pc2 := 136) dX12_copies_135 rfl ?_
      refine r_imul (c := (4 * ((t : Nat) : Int))) (pc2 := 137) dX12_copies_136 rfl rfl ?_
      refine r_iload3 (pc2 := 138) dX12_copies_137 rfl ?_
      refine r_iadd (c := ((4 * ((t : Nat) : Int)) + ((k : Nat) : Int))) (pc2 := 139) dX12_copies_138 rfl rfl ?_
      refine r_aload0 (pc2 := 140) dX12_copies_139 rfl ?_
      refine r_getR (pc2 := 143) dX12_copies_140 rfl fX12_98 (hK_317 hS) (hR_317_21 hS) ?_
      refine r_iconst (pc2 := 144) dX12_copies_143 rfl ?_
      refine r_iload1 (pc2 := 145) dX12_copies_144 rfl ?_
      refine r_imul (c := (4 * ((s : Nat) : Int))) (pc2 := 146) dX12_copies_145 rfl rfl ?_
      refine r_iload3 (pc2 := 147) dX12_copies_146 rfl ?_
      refine r_iadd (c := ((4 * ((s : Nat) : Int)) + ((k : Nat) : Int))) (pc2 := 148) dX12_copies_147 rfl rfl ?_
      refine r_iald (z := (M0.2.1 332 (4 * s + k))) (pc2 := 149) dX12_copies_148 rfl (hK_332 hS) ((4 * s) + k) (by omega) (by omega) r332 ?_
      refine r_iast (z := (M0.2.1 332 (4 * s + k))) (pc2 := 150) dX12_copies_149 rfl (hK_332 hS) (by decide) ((4 * t) + k) (by omega) (by omega) ?_
      refine r_aload0 (pc2 := 151) dX12_copies_150 rfl ?_
      refine r_getR (pc2 := 154) dX12_copies_151 rfl fX12_101 (hK_317 hS) (hR_317_22 hS) ?_
      refine r_iconst (pc2 := 155) dX12_copies_154 rfl ?_
      refine r_iload2 (pc2 := 156) dX12_copies_155 rfl ?_
      refine r_imul (c := (4 * ((t : Nat) : Int))) (pc2 := 157) dX12_copies_156 rfl rfl ?_
      refine r_iload3 (pc2 := 158) dX12_copies_157 rfl ?_
      refine r_iadd (c := ((4 * ((t : Nat) : Int)) + ((k : Nat) : Int))) (pc2 := 159) dX12_copies_158 rfl rfl ?_
      refine r_aload0 (pc2 := 160) dX12_copies_159 rfl ?_
      refine r_getR (pc2 := 163) dX12_copies_160 rfl fX12_101 (hK_317 hS) (hR_317_22 hS) ?_
      refine r_iconst (pc2 := 164) dX12_copies_163 rfl ?_
      refine r_iload1 (pc2 := 165) dX12_copies_164 rfl ?_
      refine r_imul (c := (4 * ((s : Nat) : Int))) (pc2 := 166) dX12_copies_165 rfl rfl ?_
      refine r_iload3 (pc2 := 167) dX12_copies_166 rfl ?_
      refine r_iadd (c := ((4 * ((s : Nat) : Int)) + ((k : Nat) : Int))) (pc2 := 168) dX12_copies_167 rfl rfl ?_
      refine r_iald (z := (M0.2.1 333 (4 * s + k))) (pc2 := 169) dX12_copies_168 rfl (hK_333 hS) ((4 * s) + k) (by omega) (by omega) r333 ?_
      refine r_iast (z := (M0.2.1 333 (4 * s + k))) (pc2 := 170) dX12_copies_169 rfl (hK_333 hS) (by decide) ((4 * t) + k) (by omega) (by omega) ?_
      refine r_aload0 (pc2 := 171) dX12_copies_170 rfl ?_
      refine r_getR (pc2 := 174) dX12_copies_171 rfl fX12_104 (hK_317 hS) (hR_317_23 hS) ?_
      refine r_iconst (pc2 := 175) dX12_copies_174 rfl ?_
      refine r_iload2 (pc2 := 176) dX12_copies_175 rfl ?_
      refine r_imul (c := (4 * ((t : Nat) : Int))) (pc2 := 177) dX12_copies_176 rfl rfl ?_
      refine r_iload3 (pc2 := 178) dX12_copies_177 rfl ?_
      refine r_iadd (c := ((4 * ((t : Nat) : Int)) + ((k : Nat) : Int))) (pc2 := 179) dX12_copies_178 rfl rfl ?_
      refine r_aload0 (pc2 := 180) dX12_copies_179 rfl ?_
      refine r_getR (pc2 := 183) dX12_copies_180 rfl fX12_104 (hK_317 hS) (hR_317_23 hS) ?_
      refine r_iconst (pc2 := 184) dX12_copies_183 rfl ?_
      refine r_iload1 (pc2 := 185) dX12_copies_184 rfl ?_
      refine r_imul (c := (4 * ((s : Nat) : Int))) (pc2 := 186) dX12_copies_185 rfl rfl ?_
      refine r_iload3 (pc2 := 187) dX12_copies_186 rfl ?_
      refine r_iadd (c := ((4 * ((s : Nat) : Int)) + ((k : Nat) : Int))) (pc2 := 188) dX12_copies_187 rfl rfl ?_
      refine r_iald (z := (M0.2.1 334 (4 * s + k))) (pc2 := 189) dX12_copies_188 rfl (hK_334 hS) ((4 * s) + k) (by omega) (by omega) r334 ?_
      refine r_iast (z := (M0.2.1 334 (4 * s + k))) (pc2 := 190) dX12_copies_189 rfl (hK_334 hS) (by decide) ((4 * t) + k) (by omega) (by omega) ?_
      refine r_iinc3 (z := ((k + 1 : Nat) : Int)) (pc2 := 193) dX12_copies_190 rfl (by omega) rfl ?_
      refine r_goto (tgt := 125) dX12_copies_193 (by decide) ?_
      refine ih (k + 1) _ (by omega) (((hfr.I (by decide)).I (by decide)).I (by decide)) ?_ ?_ ?_
      · rw [pI_ne (by decide), pI_ne (by decide), pI_eq, h332, cpK_st (by omega)]
      · rw [pI_ne (by decide), pI_eq, pI_ne (by decide), h333, cpK_st (by omega)]
      · rw [pI_eq, pI_ne (by decide), pI_ne (by decide), h334, cpK_st (by omega)]
/-- board t is board s now -/
def mCp (M M2 : pM) (s t : Nat) : Prop := fr [328, 329, 330, 331, 332, 333, 334] M M2 ∧ M2.2.1 328 = sB (M.2.1 328) 156 t (gB (M.2.1 328) 156 s) ∧ M2.2.1 329 = sB (M.2.1 329) 156 t (gB (M.2.1 329) 156 s) ∧ M2.2.1 330 = sB (M.2.1 330) 156 t (gB (M.2.1 330) 156 s) ∧ M2.2.1 331 = sB (M.2.1 331) 13 t (gB (M.2.1 331) 13 s) ∧ M2.2.1 332 = sB (M.2.1 332) 4 t (gB (M.2.1 332) 4 s) ∧ M2.2.1 333 = sB (M.2.1 333) 4 t (gB (M.2.1 333) 4 s) ∧ M2.2.1 334 = sB (M.2.1 334) 4 t (gB (M.2.1 334) 4 s)
set_option maxHeartbeats 4000000 in
theorem c_X12_copies {d : Nat} {M : pM} {s t : Nat} (hS : sOk M.1) (hs : s < 28) (ht : t < 28) : Ct (d + 1) 0 0 yX12_copies [.ref 317, .int (iI ((s : Nat) : Int)), .int (iI ((t : Nat) : Int))] M (fun v M2 => v = none ∧ mCp M M2 s t) := by
  refine ct_in (d := d) kX12_copies rfl (by decide) (Nat.le_of_ble_eq_true rfl) (by decide) ?_
  show Go (Ct d) _ yX12_copies cX12_copies none 0 0 0 [some (.ref 317), some (.int (iI ((s : Nat) : Int))), some (.int (iI ((t : Nat) : Int))), none] [] M
  refine r_iconst (pc2 := 1) dX12_copies_0 rfl ?_
  refine r_istore3 (pc2 := 2) dX12_copies_1 rfl rfl ?_
  refine lp1_copies M hS hs ht (fun M1 g1 a1 a2 a3 => ?_) 156 0 M (by omega) fr.rf cpK_0 cpK_0 cpK_0
  refine r_iconst (pc2 := 88) dX12_copies_87 rfl ?_
  refine r_istore3 (pc2 := 89) dX12_copies_88 rfl rfl ?_
  refine lp2_copies M1 (g1.ok hS) hs ht (fun M2 g2 b1 => ?_) 13 0 M1 (by omega) fr.rf cpK_0
  refine r_iconst (pc2 := 124) dX12_copies_123 rfl ?_
  refine r_istore3 (pc2 := 125) dX12_copies_124 rfl rfl ?_
  refine lp3_copies M2 (g2.ok (g1.ok hS)) hs ht (fun M3 g3 c1 c2 c3 => ?_) 4 0 M2 (by omega) fr.rf cpK_0 cpK_0 cpK_0
  refine ⟨rfl, ((g1.mono (by decide)).tr (g2.mono (by decide))).tr (g3.mono (by decide)), ?_, ?_, ?_, ?_, ?_, ?_, ?_⟩
  · rw [g3.i (by decide), g2.i (by decide)]; exact a1
  · rw [g3.i (by decide), g2.i (by decide)]; exact a2
  · rw [g3.i (by decide), g2.i (by decide)]; exact a3
  · rw [g3.i (by decide), b1, g1.i (by decide)]
  · rw [c1, g2.i (by decide), g1.i (by decide)]
  · rw [c2, g2.i (by decide), g1.i (by decide)]
  · rw [c3, g2.i (by decide), g1.i (by decide)]
