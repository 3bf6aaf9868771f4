/-! the model's use, lane, hopper -/
set_option maxHeartbeats 8000000 in
theorem c_X12_readUse {d : Nat} {M : pM} {T : tD} {r : rdT} {G : gPr} {u ns : Nat → Nat} (hS : sOk M.1) (hT : tOk T) (hC : mT M T) (hW : mWd M) (o_r : rOk T r) (z_r : r.2 = 0) (hG : MG M G) (hP : PV G u ns) (h125 : gS G < 125) (hk : kK T r.1 = 14) : Ct (d + 5) 0 0 yX12_readUse [.ref 317] (mM M r) (fun v M2 => v = none ∧ mPo T M M2 (lUse T r G)) := by
  refine ct_in (d := (d + 4)) kX12_readUse rfl (by decide) (Nat.le_of_ble_eq_true rfl) (by decide) ?_
  show Go (Ct (d + 4)) _ yX12_readUse cX12_readUse none 0 0 0 [some (.ref 317), none, none] [] (mM M r)
  have hT1 := hT.1
  have i_r := o_r.2
  have t_r := o_r.1
  have hg := hP.ok
  have hg2 := hg.2.1
  have l_r := K_lt hT o_r.1 (by omega)
  refine r_aload0 (pc2 := 1) dX12_readUse_0 rfl ?_
  refine r_iconst (pc2 := 2) dX12_readUse_1 rfl ?_
  refine r_cv1 (pc2 := 5) dX12_readUse_2 rfl vX12_229 (hK_317 hS) (by decide) (c_X12_emit (d := d + 3) (M := mM M r) (i := gS G) (c := 4) hS hG.1 h125) ?_
  rintro _ M9 ⟨rfl, h9⟩
  rw [eM_m] at h9
  rw [h9]
  obtain ⟨N57, h_N57⟩ : ∃ x, x = eM M (gS G) 4 := ⟨_, rfl⟩
  rw [← h_N57]
  have p_N57 : frP M N57 := by rw [h_N57]; exact frP.rf.e
  have hS_N57 : sOk N57.1 := p_N57.1.ok hS
  have hC_N57 : mT N57 T := hC.fp p_N57
  have hW_N57 : mWd N57 := hW.fp p_N57
  show Go (Ct (d + 4)) _ yX12_readUse cX12_readUse none 0 0 5 [some (.ref 317), none, none] [.int (iI ((gS G : Nat) : Int))] (mM N57 r)
  refine r_istore1 (pc2 := 6) dX12_readUse_5 rfl rfl ?_
  refine r_aload0 (pc2 := 7) dX12_readUse_6 rfl ?_
  refine r_dup (pc2 := 8) dX12_readUse_7 rfl rfl ?_
  refine r_getI (z := ((r.1 : Nat) : Int)) (pc2 := 11) dX12_readUse_8 rfl (Or.inl fX12_179) (hK_317 hS_N57) mM_t ?_
  refine r_iconst (pc2 := 12) dX12_readUse_11 rfl ?_
  refine r_iadd (c := (((r.1 + 1) : Nat) : Int)) (pc2 := 13) dX12_readUse_12 rfl (by omega) ?_
  refine r_putI (z := (((r.1 + 1) : Nat) : Int)) (pc2 := 16) dX12_readUse_13 rfl fX12_179 (w12_7 _) (hK_317 hS_N57) (by decide) ?_
  refine r_aload0 (pc2 := 17) dX12_readUse_16 rfl ?_
  rw [mM_a]
  obtain ⟨r_58, e_r_58⟩ : ∃ x, x = av T r := ⟨_, rfl⟩
  have q_r_58 : r_58 = (r.1 + 1, 0) := by rw [e_r_58, av_y z_r l_r]
  rw [show ((r.1 + 1, r.2) : rdT) = r_58 from by rw [q_r_58, z_r]]
  have o_r_58 : rOk T r_58 := by rw [e_r_58]; exact o_r.a
  have z_r_58 : r_58.2 = 0 := by rw [q_r_58]
  have i_r_58 := o_r_58.2
  have t_r_58 := o_r_58.1
  refine r_cv0 (pc2 := 20) dX12_readUse_17 rfl vX12_243 (hK_317 hS_N57) (by decide) (c_X12_isName (d := d + 3) (M := N57) (r := r_58) hS_N57 hT hC_N57 o_r_58 hW_N57) ?_
  rintro _ M9 ⟨h9, ⟨hqn, rfl⟩ | ⟨hqn, rfl⟩⟩
  · rw [h9]
    show Go (Ct (d + 4)) _ yX12_readUse cX12_readUse none 0 0 20 [some (.ref 317), some (.int (iI ((gS G : Nat) : Int))), none] [.int (iI 1)] (mM N57 r_58)
    refine r_ifeq (tgt := 30) (pc2 := 23) dX12_readUse_20 rfl (by decide) ⟨by omega, by omega⟩ (fun h9 => absurd h9 (by decide)) (fun _ => ?_)
    refine r_aload0 (pc2 := 24) dX12_readUse_23 rfl ?_
    refine r_cv0 (pc2 := 27) dX12_readUse_24 rfl vX12_247 (hK_317 hS_N57) (by decide) (c_X12_findName (d := d + 3) (M := N57) (r := r_58) (G := G) hS_N57 hT hC_N57 o_r_58 (by unfold isW; omega) hg2 (by rw [h_N57]; exact hG.2.1) (fun k hk9 => ⟨by rw [h_N57]; exact (hG.2.2.2 k hk9).1, (hP.2.1 k (by omega)).1⟩) (fun j k hj hk9 => hP.2.2.1 j k (by omega) (by omega))) ?_
    rintro _ M9 ⟨rfl, h9⟩
    rw [h9]
    have hfr := fnd_r (nm := gN G) (x := kI T r_58.1) (gT G) 0
    have hfb : -1 ≤ fnN G (kI T r_58.1) ∧ fnN G (kI T r_58.1) < 30 := by rcases hfr with ⟨g1, -⟩ | ⟨j, g1, g2, -, g3⟩; (have : fnN G (kI T r_58.1) = -1 := g1; omega); (have : fnN G (kI T r_58.1) = (j : Int) := g3; omega)
    show Go (Ct (d + 4)) _ yX12_readUse cX12_readUse none 0 0 27 [some (.ref 317), some (.int (iI ((gS G : Nat) : Int))), none] [.int (iI (fnN G (kI T r_58.1)))] (mM N57 r_58)
    refine r_goto (tgt := 31) dX12_readUse_27 (by decide) ?_
    refine r_istore2 (pc2 := 32) dX12_readUse_31 rfl rfl ?_
    refine r_aload0 (pc2 := 33) dX12_readUse_32 rfl ?_
    refine r_cv0 (pc2 := 36) dX12_readUse_33 rfl vX12_243 (hK_317 hS_N57) (by decide) (c_X12_isName (d := d + 3) (M := N57) (r := r_58) hS_N57 hT hC_N57 o_r_58 hW_N57) ?_
    rintro _ M9 ⟨h9, ⟨hqn, rfl⟩ | ⟨hqn, rfl⟩⟩
    · rw [h9]
      show Go (Ct (d + 4)) _ yX12_readUse cX12_readUse none 0 0 36 [some (.ref 317), some (.int (iI ((gS G : Nat) : Int))), some (.int (iI (fnN G (kI T r_58.1))))] [.int (iI 1)] (mM N57 r_58)
      refine r_ifne (tgt := 47) (pc2 := 39) dX12_readUse_36 rfl (by decide) ⟨by omega, by omega⟩ (fun _ => ?_) (fun h9 => absurd h9 (by decide))
      refine r_iload2 (pc2 := 48) dX12_readUse_47 rfl ?_
      refine r_ifge (tgt := 56) (pc2 := 51) dX12_readUse_48 rfl (by decide) ⟨by omega, by omega⟩ (fun b_48 => ?_) (fun b_48 => ?_)
      · refine r_aload0 (pc2 := 57) dX12_readUse_56 rfl ?_
        refine r_getI (z := r_58.2) (pc2 := 60) dX12_readUse_57 rfl (Or.inl fX12_182) (hK_317 hS_N57) mM_f ?_
        refine r_ifle (tgt := 64) (pc2 := 63) dX12_readUse_60 rfl (by decide) ⟨by omega, by omega⟩ (fun b_60 => ?_) (fun b_60 => ?_)
        · have l_r_58 := K_lt hT o_r_58.1 (by omega)
          refine r_aload0 (pc2 := 65) dX12_readUse_64 rfl ?_
          refine r_dup (pc2 := 66) dX12_readUse_65 rfl rfl ?_
          refine r_getI (z := ((r_58.1 : Nat) : Int)) (pc2 := 69) dX12_readUse_66 rfl (Or.inl fX12_179) (hK_317 hS_N57) mM_t ?_
          refine r_iconst (pc2 := 70) dX12_readUse_69 rfl ?_
          refine r_iadd (c := (((r_58.1 + 1) : Nat) : Int)) (pc2 := 71) dX12_readUse_70 rfl (by omega) ?_
          refine r_putI (z := (((r_58.1 + 1) : Nat) : Int)) (pc2 := 74) dX12_readUse_71 rfl fX12_179 (w12_7 _) (hK_317 hS_N57) (by decide) ?_
          refine r_aload0 (pc2 := 75) dX12_readUse_74 rfl ?_
          refine r_getR (pc2 := 78) dX12_readUse_75 rfl fX12_74 (hK_317 hS_N57) (hR_317_12 hS_N57) ?_
          refine r_iconst (pc2 := 79) dX12_readUse_78 rfl ?_
          refine r_iload1 (pc2 := 80) dX12_readUse_79 rfl ?_
          refine r_imul (c := ((5 * gS G : Nat) : Int)) (pc2 := 81) dX12_readUse_80 rfl (by omega) ?_
          refine r_iload2 (pc2 := 82) dX12_readUse_81 rfl ?_
          refine r_iast (z := (fnN G (kI T r_58.1))) (pc2 := 83) dX12_readUse_82 rfl (hK_324 hS_N57) (by decide) (5 * gS G) rfl (by omega) ?_
          refine r_aload0 (pc2 := 84) dX12_readUse_83 rfl ?_
          refine r_bipush (pc2 := 86) dX12_readUse_84 rfl (by decide) (by decide) ?_
          rw [mM_a]
          obtain ⟨r_59, e_r_59⟩ : ∃ x, x = av T r_58 := ⟨_, rfl⟩
          have q_r_59 : r_59 = (r_58.1 + 1, 0) := by rw [e_r_59, av_y z_r_58 l_r_58]
          rw [show ((r_58.1 + 1, r_58.2) : rdT) = r_59 from by rw [q_r_59, z_r_58]]
          have o_r_59 : rOk T r_59 := by rw [e_r_59]; exact o_r_58.a
          have z_r_59 : r_59.2 = 0 := by rw [q_r_59]
          have i_r_59 := o_r_59.2
          have t_r_59 := o_r_59.1
          rw [mM_o (by omega)]
          obtain ⟨N60, h_N60⟩ : ∃ x, x = pI N57 324 (5 * gS G) (fnN G (kI T r_58.1)) := ⟨_, rfl⟩
          rw [← h_N60]
          have p_N60 : frP N57 N60 := by rw [h_N60]; exact frP.rf.I (Or.inl (by decide))
          have hS_N60 : sOk N60.1 := p_N60.1.ok hS_N57
          have hC_N60 : mT N60 T := hC_N57.fp p_N60
          have hW_N60 : mWd N60 := hW_N57.fp p_N60
          refine r_cv1 (pc2 := 89) dX12_readUse_86 rfl vX12_232 (hK_317 hS_N60) (by decide) (c_X12_takeWord (d := d + 1) (M := N60) (r := r_59) hS_N60 hT hC_N60 o_r_59 hW_N60) ?_
          rintro _ M9 ⟨rfl, h9⟩
          obtain ⟨r_61, e_r_61⟩ : ∃ x, x = rK T 17 r_59 := ⟨_, rfl⟩
          rw [← e_r_61] at h9
          rw [h9]
          have o_r_61 : rOk T r_61 := by rw [e_r_61]; exact o_r_59.K hT
          have i_r_61 := o_r_61.2
          have t_r_61 := o_r_61.1
          show Go (Ct (d + 4)) _ yX12_readUse cX12_readUse none 0 0 89 [some (.ref 317), some (.int (iI ((gS G : Nat) : Int))), some (.int (iI (fnN G (kI T r_58.1))))] [] (mM N60 r_61)
          refine r_aload0 (pc2 := 90) dX12_readUse_89 rfl ?_
          refine r_getR (pc2 := 93) dX12_readUse_90 rfl fX12_74 (hK_317 hS_N60) (hR_317_12 hS_N60) ?_
          refine r_iconst (pc2 := 94) dX12_readUse_93 rfl ?_
          refine r_iload1 (pc2 := 95) dX12_readUse_94 rfl ?_
          refine r_imul (c := ((5 * gS G : Nat) : Int)) (pc2 := 96) dX12_readUse_95 rfl (by omega) ?_
          refine r_iconst (pc2 := 97) dX12_readUse_96 rfl ?_
          refine r_iadd (c := (((5 * gS G : Nat) : Int) + 1)) (pc2 := 98) dX12_readUse_97 rfl rfl ?_
          refine r_aload0 (pc2 := 99) dX12_readUse_98 rfl ?_
          refine r_cv0 (pc2 := 102) dX12_readUse_99 rfl vX12_235 (hK_317 hS_N60) (Nat.le_of_ble_eq_true rfl) (c_X12_takeShift (d := d) (M := N60) (r := r_61) hS_N60 hT hC_N60 o_r_61) ?_
          rintro _ M9 ⟨z_62, hz_z_62, rfl, h9, hv_z_62⟩
          obtain ⟨z_621, z_622⟩ := hz_z_62
          obtain ⟨r_63, e_r_63⟩ : ∃ x, x = rS T r_61 := ⟨_, rfl⟩
          rw [← e_r_63] at h9
          rw [h9]
          have o_r_63 : rOk T r_63 := by rw [e_r_63]; exact o_r_61.S hT
          have i_r_63 := o_r_63.2
          have t_r_63 := o_r_63.1
          show Go (Ct (d + 4)) _ yX12_readUse cX12_readUse none 0 0 102 [some (.ref 317), some (.int (iI ((gS G : Nat) : Int))), some (.int (iI (fnN G (kI T r_58.1))))] [.int (iI z_62), .int (iI (((5 * gS G : Nat) : Int) + 1)), .ref 324] (mM N60 r_63)
          refine r_iast (z := z_62) (pc2 := 103) dX12_readUse_102 rfl (hK_324 hS_N60) (by decide) (5 * gS G + 1) (by omega) (by omega) ?_
          refine r_aload0 (pc2 := 104) dX12_readUse_103 rfl ?_
          refine r_getR (pc2 := 107) dX12_readUse_104 rfl fX12_74 (hK_317 hS_N60) (hR_317_12 hS_N60) ?_
          refine r_iconst (pc2 := 108) dX12_readUse_107 rfl ?_
          refine r_iload1 (pc2 := 109) dX12_readUse_108 rfl ?_
          refine r_imul (c := ((5 * gS G : Nat) : Int)) (pc2 := 110) dX12_readUse_109 rfl (by omega) ?_
          refine r_iconst (pc2 := 111) dX12_readUse_110 rfl ?_
          refine r_iadd (c := (((5 * gS G : Nat) : Int) + 2)) (pc2 := 112) dX12_readUse_111 rfl rfl ?_
          refine r_aload0 (pc2 := 113) dX12_readUse_112 rfl ?_
          rw [mM_o (by omega)]
          obtain ⟨N64, h_N64⟩ : ∃ x, x = pI N60 324 (5 * gS G + 1) z_62 := ⟨_, rfl⟩
          rw [← h_N64]
          have p_N64 : frP N60 N64 := by rw [h_N64]; exact frP.rf.I (Or.inl (by decide))
          have hS_N64 : sOk N64.1 := p_N64.1.ok hS_N60
          have hC_N64 : mT N64 T := hC_N60.fp p_N64
          have hW_N64 : mWd N64 := hW_N60.fp p_N64
          refine r_cv0 (pc2 := 116) dX12_readUse_113 rfl vX12_235 (hK_317 hS_N64) (Nat.le_of_ble_eq_true rfl) (c_X12_takeShift (d := d) (M := N64) (r := r_63) hS_N64 hT hC_N64 o_r_63) ?_
          rintro _ M9 ⟨z_65, hz_z_65, rfl, h9, hv_z_65⟩
          obtain ⟨z_651, z_652⟩ := hz_z_65
          obtain ⟨r_66, e_r_66⟩ : ∃ x, x = rS T r_63 := ⟨_, rfl⟩
          rw [← e_r_66] at h9
          rw [h9]
          have o_r_66 : rOk T r_66 := by rw [e_r_66]; exact o_r_63.S hT
          have i_r_66 := o_r_66.2
          have t_r_66 := o_r_66.1
          show Go (Ct (d + 4)) _ yX12_readUse cX12_readUse none 0 0 116 [some (.ref 317), some (.int (iI ((gS G : Nat) : Int))), some (.int (iI (fnN G (kI T r_58.1))))] [.int (iI z_65), .int (iI (((5 * gS G : Nat) : Int) + 2)), .ref 324] (mM N64 r_66)
          refine r_iast (z := z_65) (pc2 := 117) dX12_readUse_116 rfl (hK_324 hS_N64) (by decide) (5 * gS G + 2) (by omega) (by omega) ?_
          refine r_ret dX12_readUse_117 rfl ?_
          rw [mM_o (by omega)]
          obtain ⟨N67, h_N67⟩ : ∃ x, x = pI N64 324 (5 * gS G + 2) z_65 := ⟨_, rfl⟩
          rw [← h_N67]
          have p_N67 : frP N64 N67 := by rw [h_N67]; exact frP.rf.I (Or.inl (by decide))
          have hS_N67 : sOk N67.1 := p_N67.1.ok hS_N64
          have hC_N67 : mT N67 T := hC_N64.fp p_N67
          have hW_N67 : mWd N67 := hW_N64.fp p_N67
          have hl : lUse T r G = (rK T 59 r_66, gLine G 14 ((gL G (fnN G (kI T r_58.1)).toNat : Nat) : Int) (sV T r_61) (sV T r_63) 0) := by
            unfold lUse
            dsimp only
            rw [← e_r_58, if_pos hqn.2, if_neg (show ¬ fnN G (kI T r_58.1) = -1 by omega), ← e_r_59, ← e_r_61, ← e_r_63, ← e_r_66]
          refine ⟨rfl, N67, r_66, rfl, ((((p_N57).tr p_N60).tr p_N64).tr p_N67), o_r_66, by rw [hl], fun q => ?_⟩
          rw [hl]
          have f_r_66 := rS_0 hT o_r_63 (by rw [← e_r_66]; exact q)
          have v_z_65 := hv_z_65 (by rw [← e_r_66]; exact q)
          have f_r_63 := rS_0 hT o_r_61 (by rw [← e_r_63]; exact f_r_66.1)
          have v_z_62 := hv_z_62 (by rw [← e_r_63]; exact f_r_66.1)
          have f_r_61 := rK_0 (k := 17) hT o_r_59 (by omega) (by rw [← e_r_61]; exact f_r_63.1)
          have f_r_59 : r_58.2 = 0 := z_r_58
          have f_r_58 : r.2 = 0 := z_r
          refine hG.line (a := 14) (by rw [h_N67, h_N64, h_N60, h_N57]; rfl) (by rw [h_N67, h_N64, h_N60, h_N57]; rfl) (by rw [h_N67, h_N64, h_N60, h_N57]; rfl) (by rw [h_N67, h_N64, h_N60, h_N57]; rfl) (fun j hj => ?_) (by rw [h_N67, h_N64, h_N60, h_N57]; rfl) (by rw [h_N67, h_N64, h_N60, h_N57]; rfl) ?_
          · rw [h_N67, h_N64, h_N60, h_N57]
            show (va_up (va_up (va_up (va_up (va_up (va_up (va_up (va_up (M.2.1 324) (5 * gS G) 0) (5 * gS G + 1) 0) (5 * gS G + 2) 0) (5 * gS G + 3) 0) (5 * gS G + 4) 0) (5 * gS G) (fnN G (kI T r_58.1))) (5 * gS G + 1) z_62) (5 * gS G + 2) z_65) j = M.2.1 324 j
            repeat (first | rw [up_at] | rw [up_ne (by omega)])
          · unfold mArg
            rw [show gA (gLine G 14 ((gL G (fnN G (kI T r_58.1)).toNat : Nat) : Int) (sV T r_61) (sV T r_63) 0) (gS G) = 14 from up_at, show g1 (gLine G 14 ((gL G (fnN G (kI T r_58.1)).toNat : Nat) : Int) (sV T r_61) (sV T r_63) 0) (gS G) = _ from up_at, show g2 (gLine G 14 ((gL G (fnN G (kI T r_58.1)).toNat : Nat) : Int) (sV T r_61) (sV T r_63) 0) (gS G) = _ from up_at, show g3 (gLine G 14 ((gL G (fnN G (kI T r_58.1)).toNat : Nat) : Int) (sV T r_61) (sV T r_63) 0) (gS G) = _ from up_at, show g4 (gLine G 14 ((gL G (fnN G (kI T r_58.1)).toNat : Nat) : Int) (sV T r_61) (sV T r_63) 0) (gS G) = _ from up_at]
            refine ⟨fun _ c => absurd rfl c, fun _ => ⟨(fnN G (kI T r_58.1)).toNat, ?_, ?_, rfl⟩, fun _ => ⟨?_, ?_⟩, fun c => absurd c (by decide), fun c => absurd c (by decide)⟩
            · show (fnN G (kI T r_58.1)).toNat < gT G
              rcases hfr with ⟨g1, -⟩ | ⟨j, g1, g2, -, g3⟩
              · exact absurd (show fnN G (kI T r_58.1) = -1 from g1) (by omega)
              · have : fnN G (kI T r_58.1) = (j : Int) := g3
                omega
            · rw [h_N67, h_N64, h_N60, h_N57]
              show (va_up (va_up (va_up (va_up (va_up (va_up (va_up (va_up (M.2.1 324) (5 * gS G) 0) (5 * gS G + 1) 0) (5 * gS G + 2) 0) (5 * gS G + 3) 0) (5 * gS G + 4) 0) (5 * gS G) (fnN G (kI T r_58.1))) (5 * gS G + 1) z_62) (5 * gS G + 2) z_65) (5 * gS G) = _
              repeat (first | rw [up_at] | rw [up_ne (by omega)])
              omega
            · rw [h_N67, h_N64, h_N60, h_N57]
              show (va_up (va_up (va_up (va_up (va_up (va_up (va_up (va_up (M.2.1 324) (5 * gS G) 0) (5 * gS G + 1) 0) (5 * gS G + 2) 0) (5 * gS G + 3) 0) (5 * gS G + 4) 0) (5 * gS G) (fnN G (kI T r_58.1))) (5 * gS G + 1) z_62) (5 * gS G + 2) z_65) (5 * gS G + 1) = _
              repeat (first | rw [up_at] | rw [up_ne (by omega)])
              exact v_z_62
            · rw [h_N67, h_N64, h_N60, h_N57]
              show (va_up (va_up (va_up (va_up (va_up (va_up (va_up (va_up (M.2.1 324) (5 * gS G) 0) (5 * gS G + 1) 0) (5 * gS G + 2) 0) (5 * gS G + 3) 0) (5 * gS G + 4) 0) (5 * gS G) (fnN G (kI T r_58.1))) (5 * gS G + 1) z_62) (5 * gS G + 2) z_65) (5 * gS G + 2) = _
              repeat (first | rw [up_at] | rw [up_ne (by omega)])
              exact v_z_65
        · refine r_ret dX12_readUse_63 rfl ?_
          exact absurd b_60 (by omega)
      · refine r_aload0 (pc2 := 52) dX12_readUse_51 rfl ?_
        refine r_iconst (pc2 := 53) dX12_readUse_52 rfl ?_
        refine r_cv1 (pc2 := 56) dX12_readUse_53 rfl vX12_188 (hK_317 hS_N57) (by decide) (c_X12_wrong (d := d + 3) (M := N57) (r := r_58) (w := 2) hS_N57 hT hC_N57 o_r_58 (by omega)) ?_
        rintro _ M9 ⟨rfl, h9⟩
        obtain ⟨r_68, e_r_68⟩ : ∃ x, x = fl T 2 r_58 := ⟨_, rfl⟩
        rw [← e_r_68] at h9
        rw [h9]
        have o_r_68 : rOk T r_68 := by rw [e_r_68]; exact o_r_58.f hT (by omega) (by omega)
        have i_r_68 := o_r_68.2
        have t_r_68 := o_r_68.1
        show Go (Ct (d + 4)) _ yX12_readUse cX12_readUse none 0 0 56 [some (.ref 317), some (.int (iI ((gS G : Nat) : Int))), some (.int (iI (fnN G (kI T r_58.1))))] [] (mM N57 r_68)
        refine r_aload0 (pc2 := 57) dX12_readUse_56 rfl ?_
        refine r_getI (z := r_68.2) (pc2 := 60) dX12_readUse_57 rfl (Or.inl fX12_182) (hK_317 hS_N57) mM_f ?_
        refine r_ifle (tgt := 64) (pc2 := 63) dX12_readUse_60 rfl (by decide) ⟨by omega, by omega⟩ (fun b_60 => ?_) (fun b_60 => ?_)
        · exact absurd b_60 (by have := fl_f (T := T) (w := 2) (r := r_58) (by omega) i_r_58.1; rw [← e_r_68] at this; omega)
        · refine r_ret dX12_readUse_63 rfl ?_
          have z9 : ¬ r_68.2 = 0 := by rw [e_r_68]; exact fl_f (by omega) i_r_58.1
          have hl : (lUse T r G).1 = r_68 := by
            unfold lUse
            dsimp only
            rw [← e_r_58, if_pos hqn.2, if_pos (show fnN G (kI T r_58.1) = -1 by omega), ← e_r_68]
            rw [av_n z9, rK_n z9, rS_n z9, rS_n z9, rK_n z9]
          refine ⟨rfl, N57, r_68, rfl, (p_N57), o_r_68, ?_, fun q => absurd q z9⟩
          rw [hl, rK_n z9]
    · rw [h9]
      show Go (Ct (d + 4)) _ yX12_readUse cX12_readUse none 0 0 36 [some (.ref 317), some (.int (iI ((gS G : Nat) : Int))), some (.int (iI (fnN G (kI T r_58.1))))] [.int (iI 0)] (mM N57 r_58)
      refine r_ifne (tgt := 47) (pc2 := 39) dX12_readUse_36 rfl (by decide) ⟨by omega, by omega⟩ (fun h9 => absurd h9 (by decide)) (fun _ => ?_)
      refine r_aload0 (pc2 := 40) dX12_readUse_39 rfl ?_
      refine r_iconst (pc2 := 41) dX12_readUse_40 rfl ?_
      refine r_cv1 (pc2 := 44) dX12_readUse_41 rfl vX12_188 (hK_317 hS_N57) (by decide) (c_X12_wrong (d := d + 3) (M := N57) (r := r_58) (w := 1) hS_N57 hT hC_N57 o_r_58 (by omega)) ?_
      rintro _ M9 ⟨rfl, h9⟩
      obtain ⟨r_69, e_r_69⟩ : ∃ x, x = fl T 1 r_58 := ⟨_, rfl⟩
      rw [← e_r_69] at h9
      rw [h9]
      have o_r_69 : rOk T r_69 := by rw [e_r_69]; exact o_r_58.f hT (by omega) (by omega)
      have i_r_69 := o_r_69.2
      have t_r_69 := o_r_69.1
      show Go (Ct (d + 4)) _ yX12_readUse cX12_readUse none 0 0 44 [some (.ref 317), some (.int (iI ((gS G : Nat) : Int))), some (.int (iI (fnN G (kI T r_58.1))))] [] (mM N57 r_69)
      refine r_goto (tgt := 56) dX12_readUse_44 (by decide) ?_
      refine r_aload0 (pc2 := 57) dX12_readUse_56 rfl ?_
      refine r_getI (z := r_69.2) (pc2 := 60) dX12_readUse_57 rfl (Or.inl fX12_182) (hK_317 hS_N57) mM_f ?_
      refine r_ifle (tgt := 64) (pc2 := 63) dX12_readUse_60 rfl (by decide) ⟨by omega, by omega⟩ (fun b_60 => ?_) (fun b_60 => ?_)
      · first | exact absurd hqn (by assumption) | exact absurd (by assumption) hqn
      · refine r_ret dX12_readUse_63 rfl ?_
        first | exact absurd hqn (by assumption) | exact absurd (by assumption) hqn
  · rw [h9]
    show Go (Ct (d + 4)) _ yX12_readUse cX12_readUse none 0 0 20 [some (.ref 317), some (.int (iI ((gS G : Nat) : Int))), none] [.int (iI 0)] (mM N57 r_58)
    refine r_ifeq (tgt := 30) (pc2 := 23) dX12_readUse_20 rfl (by decide) ⟨by omega, by omega⟩ (fun _ => ?_) (fun h9 => absurd h9 (by decide))
    refine r_iconst (pc2 := 31) dX12_readUse_30 rfl ?_
    refine r_istore2 (pc2 := 32) dX12_readUse_31 rfl rfl ?_
    refine r_aload0 (pc2 := 33) dX12_readUse_32 rfl ?_
    refine r_cv0 (pc2 := 36) dX12_readUse_33 rfl vX12_243 (hK_317 hS_N57) (by decide) (c_X12_isName (d := d + 3) (M := N57) (r := r_58) hS_N57 hT hC_N57 o_r_58 hW_N57) ?_
    rintro _ M9 ⟨h9, ⟨hqn, rfl⟩ | ⟨hqn, rfl⟩⟩
    · rw [h9]
      show Go (Ct (d + 4)) _ yX12_readUse cX12_readUse none 0 0 36 [some (.ref 317), some (.int (iI ((gS G : Nat) : Int))), some (.int (iI (-1)))] [.int (iI 1)] (mM N57 r_58)
      refine r_ifne (tgt := 47) (pc2 := 39) dX12_readUse_36 rfl (by decide) ⟨by omega, by omega⟩ (fun _ => ?_) (fun h9 => absurd h9 (by decide))
      refine r_iload2 (pc2 := 48) dX12_readUse_47 rfl ?_
      refine r_ifge (tgt := 56) (pc2 := 51) dX12_readUse_48 rfl (by decide) ⟨by omega, by omega⟩ (fun h9 => absurd h9 (by decide)) (fun _ => ?_)
      refine r_aload0 (pc2 := 52) dX12_readUse_51 rfl ?_
      refine r_iconst (pc2 := 53) dX12_readUse_52 rfl ?_
      refine r_cv1 (pc2 := 56) dX12_readUse_53 rfl vX12_188 (hK_317 hS_N57) (by decide) (c_X12_wrong (d := d + 3) (M := N57) (r := r_58) (w := 2) hS_N57 hT hC_N57 o_r_58 (by omega)) ?_
      rintro _ M9 ⟨rfl, h9⟩
      obtain ⟨r_70, e_r_70⟩ : ∃ x, x = fl T 2 r_58 := ⟨_, rfl⟩
      rw [← e_r_70] at h9
      rw [h9]
      have o_r_70 : rOk T r_70 := by rw [e_r_70]; exact o_r_58.f hT (by omega) (by omega)
      have i_r_70 := o_r_70.2
      have t_r_70 := o_r_70.1
      show Go (Ct (d + 4)) _ yX12_readUse cX12_readUse none 0 0 56 [some (.ref 317), some (.int (iI ((gS G : Nat) : Int))), some (.int (iI (-1)))] [] (mM N57 r_70)
      refine r_aload0 (pc2 := 57) dX12_readUse_56 rfl ?_
      refine r_getI (z := r_70.2) (pc2 := 60) dX12_readUse_57 rfl (Or.inl fX12_182) (hK_317 hS_N57) mM_f ?_
      refine r_ifle (tgt := 64) (pc2 := 63) dX12_readUse_60 rfl (by decide) ⟨by omega, by omega⟩ (fun b_60 => ?_) (fun b_60 => ?_)
      · first | exact absurd hqn (by assumption) | exact absurd (by assumption) hqn
      · refine r_ret dX12_readUse_63 rfl ?_
        first | exact absurd hqn (by assumption) | exact absurd (by assumption) hqn
    · rw [h9]
      show Go (Ct (d + 4)) _ yX12_readUse cX12_readUse none 0 0 36 [some (.ref 317), some (.int (iI ((gS G : Nat) : Int))), some (.int (iI (-1)))] [.int (iI 0)] (mM N57 r_58)
      refine r_ifne (tgt := 47) (pc2 := 39) dX12_readUse_36 rfl (by decide) ⟨by omega, by omega⟩ (fun h9 => absurd h9 (by decide)) (fun _ => ?_)
      refine r_aload0 (pc2 := 40) dX12_readUse_39 rfl ?_
      refine r_iconst (pc2 := 41) dX12_readUse_40 rfl ?_
      refine r_cv1 (pc2 := 44) dX12_readUse_41 rfl vX12_188 (hK_317 hS_N57) (by decide) (c_X12_wrong (d := d + 3) (M := N57) (r := r_58) (w := 1) hS_N57 hT hC_N57 o_r_58 (by omega)) ?_
      rintro _ M9 ⟨rfl, h9⟩
      obtain ⟨r_71, e_r_71⟩ : ∃ x, x = fl T 1 r_58 := ⟨_, rfl⟩
      rw [← e_r_71] at h9
      rw [h9]
      have o_r_71 : rOk T r_71 := by rw [e_r_71]; exact o_r_58.f hT (by omega) (by omega)
      have i_r_71 := o_r_71.2
      have t_r_71 := o_r_71.1
      show Go (Ct (d + 4)) _ yX12_readUse cX12_readUse none 0 0 44 [some (.ref 317), some (.int (iI ((gS G : Nat) : Int))), some (.int (iI (-1)))] [] (mM N57 r_71)
      refine r_goto (tgt := 56) dX12_readUse_44 (by decide) ?_
      refine r_aload0 (pc2 := 57) dX12_readUse_56 rfl ?_
      refine r_getI (z := r_71.2) (pc2 := 60) dX12_readUse_57 rfl (Or.inl fX12_182) (hK_317 hS_N57) mM_f ?_
      refine r_ifle (tgt := 64) (pc2 := 63) dX12_readUse_60 rfl (by decide) ⟨by omega, by omega⟩ (fun b_60 => ?_) (fun b_60 => ?_)
      · exact absurd b_60 (by have := fl_f (T := T) (w := 1) (r := r_58) (by omega) i_r_58.1; rw [← e_r_71] at this; omega)
      · refine r_ret dX12_readUse_63 rfl ?_
        have z9 : ¬ r_71.2 = 0 := by rw [e_r_71]; exact fl_f (by omega) i_r_58.1
        have c18 : ¬ kK T r_58.1 = 18 := fun e => hqn ⟨z_r_58, e⟩
        have hl : (lUse T r G).1 = r_71 := by
          unfold lUse
          dsimp only
          rw [← e_r_58, if_neg c18, ← e_r_71, fl_n z9]
          have hs3 : (if fnN G (kI T r_58.1) = -1 then r_71 else r_71) = r_71 := by split <;> rfl
          rw [hs3, av_n z9, rK_n z9, rS_n z9, rS_n z9, rK_n z9]
        refine ⟨rfl, N57, r_71, rfl, (p_N57), o_r_71, ?_, fun q => absurd q z9⟩
        rw [hl, rK_n z9]
set_option maxHeartbeats 8000000 in
theorem c_X12_readLower {d : Nat} {M : pM} {T : tD} {r : rdT} {G : gPr} {u ns : Nat → Nat} (hS : sOk M.1) (hT : tOk T) (hC : mT M T) (hW : mWd M) (o_r : rOk T r) (z_r : r.2 = 0) (hG : MG M G) (hP : PV G u ns) (h125 : gS G < 125) (hk : kK T r.1 = 15 ∨ kK T r.1 = 16) (hD0 : gD G = 0) : Ct (d + 4) 0 0 yX12_readLower [.ref 317] (mM M r) (fun v M2 => v = none ∧ mPo T M M2 (if kK T r.1 = 15 then lLane T r G else lHopper T r G)) := by
  refine ct_in (d := (d + 3)) kX12_readLower rfl (by decide) (Nat.le_of_ble_eq_true rfl) (by decide) ?_
  show Go (Ct (d + 3)) _ yX12_readLower cX12_readLower none 0 0 0 [some (.ref 317), none, none] [] (mM M r)
  have hT1 := hT.1
  have i_r := o_r.2
  have t_r := o_r.1
  have hg := hP.ok
  have hg2 := hg.2.1
  have l_r := K_lt hT o_r.1 (by omega)
  refine r_aload0 (pc2 := 1) dX12_readLower_0 rfl ?_
  refine r_iconst (pc2 := 2) dX12_readLower_1 rfl ?_
  refine r_cv1 (pc2 := 5) dX12_readLower_2 rfl vX12_192 (hK_317 hS) (by decide) (c_X12_isWord (d := d + 2) (M := M) (r := r) (w := 5) hS hT hC o_r hW (by omega)) ?_
  rintro _ M9 ⟨h9, ⟨hq, rfl⟩ | ⟨hq, rfl⟩⟩
  · have hk15 : kK T r.1 = 15 := hq.2
    rw [h9]
    show Go (Ct (d + 3)) _ yX12_readLower cX12_readLower none 0 0 5 [some (.ref 317), none, none] [.int (iI 1)] (mM M r)
    refine r_istore1 (pc2 := 6) dX12_readLower_5 rfl rfl ?_
    refine r_aload0 (pc2 := 7) dX12_readLower_6 rfl ?_
    refine r_iload1 (pc2 := 8) dX12_readLower_7 rfl ?_
    refine r_ifeq (tgt := 15) (pc2 := 11) dX12_readLower_8 rfl (by decide) ⟨by omega, by omega⟩ (fun h9 => absurd h9 (by decide)) (fun _ => ?_)
    refine r_iconst (pc2 := 12) dX12_readLower_11 rfl ?_
    refine r_goto (tgt := 17) dX12_readLower_12 (by decide) ?_
    refine r_cv1 (pc2 := 20) dX12_readLower_17 rfl vX12_229 (hK_317 hS) (by decide) (c_X12_emit (d := d + 2) (M := mM M r) (i := gS G) (c := 5) hS hG.1 h125) ?_
    rintro _ M9 ⟨rfl, h9⟩
    rw [eM_m] at h9
    rw [h9]
    obtain ⟨N72, h_N72⟩ : ∃ x, x = eM M (gS G) 5 := ⟨_, rfl⟩
    rw [← h_N72]
    have p_N72 : frP M N72 := by rw [h_N72]; exact frP.rf.e
    have hS_N72 : sOk N72.1 := p_N72.1.ok hS
    have hC_N72 : mT N72 T := hC.fp p_N72
    have hW_N72 : mWd N72 := hW.fp p_N72
    show Go (Ct (d + 3)) _ yX12_readLower cX12_readLower none 0 0 20 [some (.ref 317), some (.int (iI 1)), none] [.int (iI ((gS G : Nat) : Int))] (mM N72 r)
    refine r_istore2 (pc2 := 21) dX12_readLower_20 rfl rfl ?_
    refine r_aload0 (pc2 := 22) dX12_readLower_21 rfl ?_
    refine r_dup (pc2 := 23) dX12_readLower_22 rfl rfl ?_
    refine r_getI (z := ((r.1 : Nat) : Int)) (pc2 := 26) dX12_readLower_23 rfl (Or.inl fX12_179) (hK_317 hS_N72) mM_t ?_
    refine r_iconst (pc2 := 27) dX12_readLower_26 rfl ?_
    refine r_iadd (c := (((r.1 + 1) : Nat) : Int)) (pc2 := 28) dX12_readLower_27 rfl (by omega) ?_
    refine r_putI (z := (((r.1 + 1) : Nat) : Int)) (pc2 := 31) dX12_readLower_28 rfl fX12_179 (w12_7 _) (hK_317 hS_N72) (by decide) ?_
    refine r_iload1 (pc2 := 32) dX12_readLower_31 rfl ?_
    refine r_ifeq (tgt := 69) (pc2 := 35) dX12_readLower_32 rfl (by decide) ⟨by omega, by omega⟩ (fun h9 => absurd h9 (by decide)) (fun _ => ?_)
    refine r_aload0 (pc2 := 36) dX12_readLower_35 rfl ?_
    refine r_getR (pc2 := 39) dX12_readLower_36 rfl fX12_74 (hK_317 hS_N72) (hR_317_12 hS_N72) ?_
    refine r_iconst (pc2 := 40) dX12_readLower_39 rfl ?_
    refine r_iload2 (pc2 := 41) dX12_readLower_40 rfl ?_
    refine r_imul (c := ((5 * gS G : Nat) : Int)) (pc2 := 42) dX12_readLower_41 rfl (by omega) ?_
    refine r_aload0 (pc2 := 43) dX12_readLower_42 rfl ?_
    refine r_iconst (pc2 := 44) dX12_readLower_43 rfl ?_
    refine r_bipush (pc2 := 46) dX12_readLower_44 rfl (by decide) (by decide) ?_
    rw [mM_a]
    obtain ⟨r_73, e_r_73⟩ : ∃ x, x = av T r := ⟨_, rfl⟩
    have q_r_73 : r_73 = (r.1 + 1, 0) := by rw [e_r_73, av_y z_r l_r]
    rw [show ((r.1 + 1, r.2) : rdT) = r_73 from by rw [q_r_73, z_r]]
    have o_r_73 : rOk T r_73 := by rw [e_r_73]; exact o_r.a
    have z_r_73 : r_73.2 = 0 := by rw [q_r_73]
    have i_r_73 := o_r_73.2
    have t_r_73 := o_r_73.1
    refine r_cv2 (pc2 := 49) dX12_readLower_46 rfl vX12_204 (hK_317 hS_N72) (Nat.le_of_ble_eq_true rfl) (c_X12_takeNumber (d := d + 1) (M := N72) (r := r_73) (lo := 0) (hi := 12) hS_N72 hT hC_N72 o_r_73 ⟨by omega, by omega⟩ ⟨by omega, by omega⟩) ?_
    rintro _ M9 ⟨z_74, hz_z_74, rfl, h9, hv_z_74⟩
    obtain ⟨z_741, z_742⟩ := hz_z_74
    obtain ⟨r_75, e_r_75⟩ : ∃ x, x = rN T 0 12 r_73 := ⟨_, rfl⟩
    rw [← e_r_75] at h9
    rw [h9]
    have o_r_75 : rOk T r_75 := by rw [e_r_75]; exact o_r_73.N hT
    have i_r_75 := o_r_75.2
    have t_r_75 := o_r_75.1
    show Go (Ct (d + 3)) _ yX12_readLower cX12_readLower none 0 0 49 [some (.ref 317), some (.int (iI 1)), some (.int (iI ((gS G : Nat) : Int)))] [.int (iI z_74), .int (iI ((5 * gS G : Nat) : Int)), .ref 324] (mM N72 r_75)
    refine r_iast (z := z_74) (pc2 := 50) dX12_readLower_49 rfl (hK_324 hS_N72) (by decide) (5 * gS G) rfl (by omega) ?_
    refine r_aload0 (pc2 := 51) dX12_readLower_50 rfl ?_
    refine r_getR (pc2 := 54) dX12_readLower_51 rfl fX12_74 (hK_317 hS_N72) (hR_317_12 hS_N72) ?_
    refine r_iconst (pc2 := 55) dX12_readLower_54 rfl ?_
    refine r_iload2 (pc2 := 56) dX12_readLower_55 rfl ?_
    refine r_imul (c := ((5 * gS G : Nat) : Int)) (pc2 := 57) dX12_readLower_56 rfl (by omega) ?_
    refine r_iconst (pc2 := 58) dX12_readLower_57 rfl ?_
    refine r_iadd (c := (((5 * gS G : Nat) : Int) + 1)) (pc2 := 59) dX12_readLower_58 rfl rfl ?_
    refine r_aload0 (pc2 := 60) dX12_readLower_59 rfl ?_
    refine r_iconst (pc2 := 61) dX12_readLower_60 rfl ?_
    refine r_iconst (pc2 := 62) dX12_readLower_61 rfl ?_
    rw [mM_o (by omega)]
    obtain ⟨N76, h_N76⟩ : ∃ x, x = pI N72 324 (5 * gS G) z_74 := ⟨_, rfl⟩
    rw [← h_N76]
    have p_N76 : frP N72 N76 := by rw [h_N76]; exact frP.rf.I (Or.inl (by decide))
    have hS_N76 : sOk N76.1 := p_N76.1.ok hS_N72
    have hC_N76 : mT N76 T := hC_N72.fp p_N76
    have hW_N76 : mWd N76 := hW_N72.fp p_N76
    refine r_cv2 (pc2 := 65) dX12_readLower_62 rfl vX12_204 (hK_317 hS_N76) (Nat.le_of_ble_eq_true rfl) (c_X12_takeNumber (d := d + 1) (M := N76) (r := r_75) (lo := 0) (hi := 4) hS_N76 hT hC_N76 o_r_75 ⟨by omega, by omega⟩ ⟨by omega, by omega⟩) ?_
    rintro _ M9 ⟨z_77, hz_z_77, rfl, h9, hv_z_77⟩
    obtain ⟨z_771, z_772⟩ := hz_z_77
    obtain ⟨r_78, e_r_78⟩ : ∃ x, x = rN T 0 4 r_75 := ⟨_, rfl⟩
    rw [← e_r_78] at h9
    rw [h9]
    have o_r_78 : rOk T r_78 := by rw [e_r_78]; exact o_r_75.N hT
    have i_r_78 := o_r_78.2
    have t_r_78 := o_r_78.1
    show Go (Ct (d + 3)) _ yX12_readLower cX12_readLower none 0 0 65 [some (.ref 317), some (.int (iI 1)), some (.int (iI ((gS G : Nat) : Int)))] [.int (iI z_77), .int (iI (((5 * gS G : Nat) : Int) + 1)), .ref 324] (mM N76 r_78)
    refine r_iast (z := z_77) (pc2 := 66) dX12_readLower_65 rfl (hK_324 hS_N76) (by decide) (5 * gS G + 1) (by omega) (by omega) ?_
    refine r_goto (tgt := 134) dX12_readLower_66 (by decide) ?_
    refine r_ret dX12_readLower_134 rfl ?_
    rw [mM_o (by omega)]
    obtain ⟨N79, h_N79⟩ : ∃ x, x = pI N76 324 (5 * gS G + 1) z_77 := ⟨_, rfl⟩
    rw [← h_N79]
    have p_N79 : frP N76 N79 := by rw [h_N79]; exact frP.rf.I (Or.inl (by decide))
    have hS_N79 : sOk N79.1 := p_N79.1.ok hS_N76
    have hC_N79 : mT N79 T := hC_N76.fp p_N79
    have hW_N79 : mWd N79 := hW_N76.fp p_N79
    have hl : (if kK T r.1 = 15 then lLane T r G else lHopper T r G) = (rK T 59 r_78, gLine G 15 ((kV T r_73.1 : Nat) : Int) (if ((kV T r_75.1 : Nat) : Int) = 4 then -1 else ((kV T r_75.1 : Nat) : Int)) 0 0) := by
      rw [if_pos hk15]
      unfold lLane
      dsimp only
      rw [cOu, if_neg (show ¬ 0 < gD G by omega), ← e_r_73, ← e_r_75, ← e_r_78]
    refine ⟨rfl, N79, r_78, rfl, (((p_N72).tr p_N76).tr p_N79), o_r_78, by rw [hl], fun q => ?_⟩
    rw [hl]
    have f_r_78 := rN_0 (lo := 0) (hi := 4) hT o_r_75 (by rw [← e_r_78]; exact q)
    have v_z_77 := hv_z_77 (by rw [← e_r_78]; exact q)
    have f_r_75 := rN_0 (lo := 0) (hi := 12) hT o_r_73 (by rw [← e_r_75]; exact f_r_78.1)
    have v_z_74 := hv_z_74 (by rw [← e_r_75]; exact f_r_78.1)
    have f_r_73 : r.2 = 0 := z_r
    refine hG.line (a := 15) (by rw [h_N79, h_N76, h_N72]; rfl) (by rw [h_N79, h_N76, h_N72]; rfl) (by rw [h_N79, h_N76, h_N72]; rfl) (by rw [h_N79, h_N76, h_N72]; rfl) (fun j hj => ?_) (by rw [h_N79, h_N76, h_N72]; rfl) (by rw [h_N79, h_N76, h_N72]; rfl) ?_
    · rw [h_N79, h_N76, h_N72]
      show (va_up (va_up (va_up (va_up (va_up (va_up (va_up (M.2.1 324) (5 * gS G) 0) (5 * gS G + 1) 0) (5 * gS G + 2) 0) (5 * gS G + 3) 0) (5 * gS G + 4) 0) (5 * gS G) z_74) (5 * gS G + 1) z_77) j = M.2.1 324 j
      repeat (first | rw [up_at] | rw [up_ne (by omega)])
    · unfold mArg
      rw [show gA (gLine G 15 ((kV T r_73.1 : Nat) : Int) (if ((kV T r_75.1 : Nat) : Int) = 4 then -1 else ((kV T r_75.1 : Nat) : Int)) 0 0) (gS G) = 15 from up_at, show g1 (gLine G 15 ((kV T r_73.1 : Nat) : Int) (if ((kV T r_75.1 : Nat) : Int) = 4 then -1 else ((kV T r_75.1 : Nat) : Int)) 0 0) (gS G) = _ from up_at, show g2 (gLine G 15 ((kV T r_73.1 : Nat) : Int) (if ((kV T r_75.1 : Nat) : Int) = 4 then -1 else ((kV T r_75.1 : Nat) : Int)) 0 0) (gS G) = _ from up_at, show g3 (gLine G 15 ((kV T r_73.1 : Nat) : Int) (if ((kV T r_75.1 : Nat) : Int) = 4 then -1 else ((kV T r_75.1 : Nat) : Int)) 0 0) (gS G) = _ from up_at, show g4 (gLine G 15 ((kV T r_73.1 : Nat) : Int) (if ((kV T r_75.1 : Nat) : Int) = 4 then -1 else ((kV T r_75.1 : Nat) : Int)) 0 0) (gS G) = _ from up_at]
      refine ⟨fun _ _ => ?_, fun c => absurd c (by decide), fun c => absurd c (by decide), fun _ => ?_, fun c => absurd c (by decide)⟩
      · rw [h_N79, h_N76, h_N72]
        show (va_up (va_up (va_up (va_up (va_up (va_up (va_up (M.2.1 324) (5 * gS G) 0) (5 * gS G + 1) 0) (5 * gS G + 2) 0) (5 * gS G + 3) 0) (5 * gS G + 4) 0) (5 * gS G) z_74) (5 * gS G + 1) z_77) (5 * gS G) = _
        repeat (first | rw [up_at] | rw [up_ne (by omega)])
        exact v_z_74
      · rw [h_N79, h_N76, h_N72]
        show (va_up (va_up (va_up (va_up (va_up (va_up (va_up (M.2.1 324) (5 * gS G) 0) (5 * gS G + 1) 0) (5 * gS G + 2) 0) (5 * gS G + 3) 0) (5 * gS G + 4) 0) (5 * gS G) z_74) (5 * gS G + 1) z_77) (5 * gS G + 1) = _
        repeat (first | rw [up_at] | rw [up_ne (by omega)])
        rw [v_z_77]
        (repeat' split) <;> omega
  · have hk15 : ¬ kK T r.1 = 15 := fun e => hq ⟨z_r, e⟩
    rw [h9]
    show Go (Ct (d + 3)) _ yX12_readLower cX12_readLower none 0 0 5 [some (.ref 317), none, none] [.int (iI 0)] (mM M r)
    refine r_istore1 (pc2 := 6) dX12_readLower_5 rfl rfl ?_
    refine r_aload0 (pc2 := 7) dX12_readLower_6 rfl ?_
    refine r_iload1 (pc2 := 8) dX12_readLower_7 rfl ?_
    refine r_ifeq (tgt := 15) (pc2 := 11) dX12_readLower_8 rfl (by decide) ⟨by omega, by omega⟩ (fun _ => ?_) (fun h9 => absurd h9 (by decide))
    refine r_bipush (pc2 := 17) dX12_readLower_15 rfl (by decide) (by decide) ?_
    refine r_cv1 (pc2 := 20) dX12_readLower_17 rfl vX12_229 (hK_317 hS) (by decide) (c_X12_emit (d := d + 2) (M := mM M r) (i := gS G) (c := 6) hS hG.1 h125) ?_
    rintro _ M9 ⟨rfl, h9⟩
    rw [eM_m] at h9
    rw [h9]
    obtain ⟨N80, h_N80⟩ : ∃ x, x = eM M (gS G) 6 := ⟨_, rfl⟩
    rw [← h_N80]
    have p_N80 : frP M N80 := by rw [h_N80]; exact frP.rf.e
    have hS_N80 : sOk N80.1 := p_N80.1.ok hS
    have hC_N80 : mT N80 T := hC.fp p_N80
    have hW_N80 : mWd N80 := hW.fp p_N80
    show Go (Ct (d + 3)) _ yX12_readLower cX12_readLower none 0 0 20 [some (.ref 317), some (.int (iI 0)), none] [.int (iI ((gS G : Nat) : Int))] (mM N80 r)
    refine r_istore2 (pc2 := 21) dX12_readLower_20 rfl rfl ?_
    refine r_aload0 (pc2 := 22) dX12_readLower_21 rfl ?_
    refine r_dup (pc2 := 23) dX12_readLower_22 rfl rfl ?_
    refine r_getI (z := ((r.1 : Nat) : Int)) (pc2 := 26) dX12_readLower_23 rfl (Or.inl fX12_179) (hK_317 hS_N80) mM_t ?_
    refine r_iconst (pc2 := 27) dX12_readLower_26 rfl ?_
    refine r_iadd (c := (((r.1 + 1) : Nat) : Int)) (pc2 := 28) dX12_readLower_27 rfl (by omega) ?_
    refine r_putI (z := (((r.1 + 1) : Nat) : Int)) (pc2 := 31) dX12_readLower_28 rfl fX12_179 (w12_7 _) (hK_317 hS_N80) (by decide) ?_
    refine r_iload1 (pc2 := 32) dX12_readLower_31 rfl ?_
    refine r_ifeq (tgt := 69) (pc2 := 35) dX12_readLower_32 rfl (by decide) ⟨by omega, by omega⟩ (fun _ => ?_) (fun h9 => absurd h9 (by decide))
    refine r_aload0 (pc2 := 70) dX12_readLower_69 rfl ?_
    refine r_getR (pc2 := 73) dX12_readLower_70 rfl fX12_74 (hK_317 hS_N80) (hR_317_12 hS_N80) ?_
    refine r_iconst (pc2 := 74) dX12_readLower_73 rfl ?_
    refine r_iload2 (pc2 := 75) dX12_readLower_74 rfl ?_
    refine r_imul (c := ((5 * gS G : Nat) : Int)) (pc2 := 76) dX12_readLower_75 rfl (by omega) ?_
    refine r_aload0 (pc2 := 77) dX12_readLower_76 rfl ?_
    refine r_iconst (pc2 := 78) dX12_readLower_77 rfl ?_
    refine r_iconst (pc2 := 79) dX12_readLower_78 rfl ?_
    rw [mM_a]
    obtain ⟨r_81, e_r_81⟩ : ∃ x, x = av T r := ⟨_, rfl⟩
    have q_r_81 : r_81 = (r.1 + 1, 0) := by rw [e_r_81, av_y z_r l_r]
    rw [show ((r.1 + 1, r.2) : rdT) = r_81 from by rw [q_r_81, z_r]]
    have o_r_81 : rOk T r_81 := by rw [e_r_81]; exact o_r.a
    have z_r_81 : r_81.2 = 0 := by rw [q_r_81]
    have i_r_81 := o_r_81.2
    have t_r_81 := o_r_81.1
    refine r_cv2 (pc2 := 82) dX12_readLower_79 rfl vX12_204 (hK_317 hS_N80) (Nat.le_of_ble_eq_true rfl) (c_X12_takeNumber (d := d + 1) (M := N80) (r := r_81) (lo := 0) (hi := 3) hS_N80 hT hC_N80 o_r_81 ⟨by omega, by omega⟩ ⟨by omega, by omega⟩) ?_
    rintro _ M9 ⟨z_82, hz_z_82, rfl, h9, hv_z_82⟩
    obtain ⟨z_821, z_822⟩ := hz_z_82
    obtain ⟨r_83, e_r_83⟩ : ∃ x, x = rN T 0 3 r_81 := ⟨_, rfl⟩
    rw [← e_r_83] at h9
    rw [h9]
    have o_r_83 : rOk T r_83 := by rw [e_r_83]; exact o_r_81.N hT
    have i_r_83 := o_r_83.2
    have t_r_83 := o_r_83.1
    show Go (Ct (d + 3)) _ yX12_readLower cX12_readLower none 0 0 82 [some (.ref 317), some (.int (iI 0)), some (.int (iI ((gS G : Nat) : Int)))] [.int (iI z_82), .int (iI ((5 * gS G : Nat) : Int)), .ref 324] (mM N80 r_83)
    refine r_iast (z := z_82) (pc2 := 83) dX12_readLower_82 rfl (hK_324 hS_N80) (by decide) (5 * gS G) rfl (by omega) ?_
    refine r_aload0 (pc2 := 84) dX12_readLower_83 rfl ?_
    refine r_getR (pc2 := 87) dX12_readLower_84 rfl fX12_74 (hK_317 hS_N80) (hR_317_12 hS_N80) ?_
    refine r_iconst (pc2 := 88) dX12_readLower_87 rfl ?_
    refine r_iload2 (pc2 := 89) dX12_readLower_88 rfl ?_
    refine r_imul (c := ((5 * gS G : Nat) : Int)) (pc2 := 90) dX12_readLower_89 rfl (by omega) ?_
    refine r_iconst (pc2 := 91) dX12_readLower_90 rfl ?_
    refine r_iadd (c := (((5 * gS G : Nat) : Int) + 1)) (pc2 := 92) dX12_readLower_91 rfl rfl ?_
    refine r_aload0 (pc2 := 93) dX12_readLower_92 rfl ?_
    refine r_iconst (pc2 := 94) dX12_readLower_93 rfl ?_
    refine r_bipush (pc2 := 96) dX12_readLower_94 rfl (by decide) (by decide) ?_
    rw [mM_o (by omega)]
    obtain ⟨N84, h_N84⟩ : ∃ x, x = pI N80 324 (5 * gS G) z_82 := ⟨_, rfl⟩
    rw [← h_N84]
    have p_N84 : frP N80 N84 := by rw [h_N84]; exact frP.rf.I (Or.inl (by decide))
    have hS_N84 : sOk N84.1 := p_N84.1.ok hS_N80
    have hC_N84 : mT N84 T := hC_N80.fp p_N84
    have hW_N84 : mWd N84 := hW_N80.fp p_N84
    refine r_cv2 (pc2 := 99) dX12_readLower_96 rfl vX12_204 (hK_317 hS_N84) (Nat.le_of_ble_eq_true rfl) (c_X12_takeNumber (d := d + 1) (M := N84) (r := r_83) (lo := 0) (hi := 12) hS_N84 hT hC_N84 o_r_83 ⟨by omega, by omega⟩ ⟨by omega, by omega⟩) ?_
    rintro _ M9 ⟨z_85, hz_z_85, rfl, h9, hv_z_85⟩
    obtain ⟨z_851, z_852⟩ := hz_z_85
    obtain ⟨r_86, e_r_86⟩ : ∃ x, x = rN T 0 12 r_83 := ⟨_, rfl⟩
    rw [← e_r_86] at h9
    rw [h9]
    have o_r_86 : rOk T r_86 := by rw [e_r_86]; exact o_r_83.N hT
    have i_r_86 := o_r_86.2
    have t_r_86 := o_r_86.1
    show Go (Ct (d + 3)) _ yX12_readLower cX12_readLower none 0 0 99 [some (.ref 317), some (.int (iI 0)), some (.int (iI ((gS G : Nat) : Int)))] [.int (iI z_85), .int (iI (((5 * gS G : Nat) : Int) + 1)), .ref 324] (mM N84 r_86)
    refine r_iast (z := z_85) (pc2 := 100) dX12_readLower_99 rfl (hK_324 hS_N84) (by decide) (5 * gS G + 1) (by omega) (by omega) ?_
    refine r_aload0 (pc2 := 101) dX12_readLower_100 rfl ?_
    refine r_getR (pc2 := 104) dX12_readLower_101 rfl fX12_74 (hK_317 hS_N84) (hR_317_12 hS_N84) ?_
    refine r_iconst (pc2 := 105) dX12_readLower_104 rfl ?_
    refine r_iload2 (pc2 := 106) dX12_readLower_105 rfl ?_
    refine r_imul (c := ((5 * gS G : Nat) : Int)) (pc2 := 107) dX12_readLower_106 rfl (by omega) ?_
    refine r_iconst (pc2 := 108) dX12_readLower_107 rfl ?_
    refine r_iadd (c := (((5 * gS G : Nat) : Int) + 2)) (pc2 := 109) dX12_readLower_108 rfl rfl ?_
    refine r_aload0 (pc2 := 110) dX12_readLower_109 rfl ?_
    refine r_iconst (pc2 := 111) dX12_readLower_110 rfl ?_
    refine r_iconst (pc2 := 112) dX12_readLower_111 rfl ?_
    rw [mM_o (by omega)]
    obtain ⟨N87, h_N87⟩ : ∃ x, x = pI N84 324 (5 * gS G + 1) z_85 := ⟨_, rfl⟩
    rw [← h_N87]
    have p_N87 : frP N84 N87 := by rw [h_N87]; exact frP.rf.I (Or.inl (by decide))
    have hS_N87 : sOk N87.1 := p_N87.1.ok hS_N84
    have hC_N87 : mT N87 T := hC_N84.fp p_N87
    have hW_N87 : mWd N87 := hW_N84.fp p_N87
    refine r_cv2 (pc2 := 115) dX12_readLower_112 rfl vX12_204 (hK_317 hS_N87) (Nat.le_of_ble_eq_true rfl) (c_X12_takeNumber (d := d + 1) (M := N87) (r := r_86) (lo := 0) (hi := 3) hS_N87 hT hC_N87 o_r_86 ⟨by omega, by omega⟩ ⟨by omega, by omega⟩) ?_
    rintro _ M9 ⟨z_88, hz_z_88, rfl, h9, hv_z_88⟩
    obtain ⟨z_881, z_882⟩ := hz_z_88
    obtain ⟨r_89, e_r_89⟩ : ∃ x, x = rN T 0 3 r_86 := ⟨_, rfl⟩
    rw [← e_r_89] at h9
    rw [h9]
    have o_r_89 : rOk T r_89 := by rw [e_r_89]; exact o_r_86.N hT
    have i_r_89 := o_r_89.2
    have t_r_89 := o_r_89.1
    show Go (Ct (d + 3)) _ yX12_readLower cX12_readLower none 0 0 115 [some (.ref 317), some (.int (iI 0)), some (.int (iI ((gS G : Nat) : Int)))] [.int (iI z_88), .int (iI (((5 * gS G : Nat) : Int) + 2)), .ref 324] (mM N87 r_89)
    refine r_iast (z := z_88) (pc2 := 116) dX12_readLower_115 rfl (hK_324 hS_N87) (by decide) (5 * gS G + 2) (by omega) (by omega) ?_
    refine r_aload0 (pc2 := 117) dX12_readLower_116 rfl ?_
    refine r_getR (pc2 := 120) dX12_readLower_117 rfl fX12_74 (hK_317 hS_N87) (hR_317_12 hS_N87) ?_
    refine r_iconst (pc2 := 121) dX12_readLower_120 rfl ?_
    refine r_iload2 (pc2 := 122) dX12_readLower_121 rfl ?_
    refine r_imul (c := ((5 * gS G : Nat) : Int)) (pc2 := 123) dX12_readLower_122 rfl (by omega) ?_
    refine r_iconst (pc2 := 124) dX12_readLower_123 rfl ?_
    refine r_iadd (c := (((5 * gS G : Nat) : Int) + 3)) (pc2 := 125) dX12_readLower_124 rfl rfl ?_
    refine r_aload0 (pc2 := 126) dX12_readLower_125 rfl ?_
    refine r_iconst (pc2 := 127) dX12_readLower_126 rfl ?_
    refine r_sipush (pc2 := 130) dX12_readLower_127 rfl (by decide) (by decide) ?_
    rw [mM_o (by omega)]
    obtain ⟨N90, h_N90⟩ : ∃ x, x = pI N87 324 (5 * gS G + 2) z_88 := ⟨_, rfl⟩
    rw [← h_N90]
    have p_N90 : frP N87 N90 := by rw [h_N90]; exact frP.rf.I (Or.inl (by decide))
    have hS_N90 : sOk N90.1 := p_N90.1.ok hS_N87
    have hC_N90 : mT N90 T := hC_N87.fp p_N90
    have hW_N90 : mWd N90 := hW_N87.fp p_N90
    refine r_cv2 (pc2 := 133) dX12_readLower_130 rfl vX12_204 (hK_317 hS_N90) (Nat.le_of_ble_eq_true rfl) (c_X12_takeNumber (d := d + 1) (M := N90) (r := r_89) (lo := 0) (hi := 999) hS_N90 hT hC_N90 o_r_89 ⟨by omega, by omega⟩ ⟨by omega, by omega⟩) ?_
    rintro _ M9 ⟨z_91, hz_z_91, rfl, h9, hv_z_91⟩
    obtain ⟨z_911, z_912⟩ := hz_z_91
    obtain ⟨r_92, e_r_92⟩ : ∃ x, x = rN T 0 999 r_89 := ⟨_, rfl⟩
    rw [← e_r_92] at h9
    rw [h9]
    have o_r_92 : rOk T r_92 := by rw [e_r_92]; exact o_r_89.N hT
    have i_r_92 := o_r_92.2
    have t_r_92 := o_r_92.1
    show Go (Ct (d + 3)) _ yX12_readLower cX12_readLower none 0 0 133 [some (.ref 317), some (.int (iI 0)), some (.int (iI ((gS G : Nat) : Int)))] [.int (iI z_91), .int (iI (((5 * gS G : Nat) : Int) + 3)), .ref 324] (mM N90 r_92)
    refine r_iast (z := z_91) (pc2 := 134) dX12_readLower_133 rfl (hK_324 hS_N90) (by decide) (5 * gS G + 3) (by omega) (by omega) ?_
    refine r_ret dX12_readLower_134 rfl ?_
    rw [mM_o (by omega)]
    obtain ⟨N93, h_N93⟩ : ∃ x, x = pI N90 324 (5 * gS G + 3) z_91 := ⟨_, rfl⟩
    rw [← h_N93]
    have p_N93 : frP N90 N93 := by rw [h_N93]; exact frP.rf.I (Or.inl (by decide))
    have hS_N93 : sOk N93.1 := p_N93.1.ok hS_N90
    have hC_N93 : mT N93 T := hC_N90.fp p_N93
    have hW_N93 : mWd N93 := hW_N90.fp p_N93
    have hl : (if kK T r.1 = 15 then lLane T r G else lHopper T r G) = (rK T 59 r_92, gLine G 16 ((kV T r_81.1 : Nat) : Int) ((kV T r_83.1 : Nat) : Int) ((kV T r_86.1 : Nat) : Int) ((kV T r_89.1 : Nat) : Int)) := by
      rw [if_neg hk15]
      unfold lHopper
      dsimp only
      rw [cOu, if_neg (show ¬ 0 < gD G by omega), ← e_r_81, ← e_r_83, ← e_r_86, ← e_r_89, ← e_r_92]
    refine ⟨rfl, N93, r_92, rfl, (((((p_N80).tr p_N84).tr p_N87).tr p_N90).tr p_N93), o_r_92, by rw [hl], fun q => ?_⟩
    rw [hl]
    have f_r_92 := rN_0 (lo := 0) (hi := 999) hT o_r_89 (by rw [← e_r_92]; exact q)
    have v_z_91 := hv_z_91 (by rw [← e_r_92]; exact q)
    have f_r_89 := rN_0 (lo := 0) (hi := 3) hT o_r_86 (by rw [← e_r_89]; exact f_r_92.1)
    have v_z_88 := hv_z_88 (by rw [← e_r_89]; exact f_r_92.1)
    have f_r_86 := rN_0 (lo := 0) (hi := 12) hT o_r_83 (by rw [← e_r_86]; exact f_r_89.1)
    have v_z_85 := hv_z_85 (by rw [← e_r_86]; exact f_r_89.1)
    have f_r_83 := rN_0 (lo := 0) (hi := 3) hT o_r_81 (by rw [← e_r_83]; exact f_r_86.1)
    have v_z_82 := hv_z_82 (by rw [← e_r_83]; exact f_r_86.1)
    have f_r_81 : r.2 = 0 := z_r
    refine hG.line (a := 16) (by rw [h_N93, h_N90, h_N87, h_N84, h_N80]; rfl) (by rw [h_N93, h_N90, h_N87, h_N84, h_N80]; rfl) (by rw [h_N93, h_N90, h_N87, h_N84, h_N80]; rfl) (by rw [h_N93, h_N90, h_N87, h_N84, h_N80]; rfl) (fun j hj => ?_) (by rw [h_N93, h_N90, h_N87, h_N84, h_N80]; rfl) (by rw [h_N93, h_N90, h_N87, h_N84, h_N80]; rfl) ?_
    · rw [h_N93, h_N90, h_N87, h_N84, h_N80]
      show (va_up (va_up (va_up (va_up (va_up (va_up (va_up (va_up (va_up (M.2.1 324) (5 * gS G) 0) (5 * gS G + 1) 0) (5 * gS G + 2) 0) (5 * gS G + 3) 0) (5 * gS G + 4) 0) (5 * gS G) z_82) (5 * gS G + 1) z_85) (5 * gS G + 2) z_88) (5 * gS G + 3) z_91) j = M.2.1 324 j
      repeat (first | rw [up_at] | rw [up_ne (by omega)])
    · unfold mArg
      rw [show gA (gLine G 16 ((kV T r_81.1 : Nat) : Int) ((kV T r_83.1 : Nat) : Int) ((kV T r_86.1 : Nat) : Int) ((kV T r_89.1 : Nat) : Int)) (gS G) = 16 from up_at, show g1 (gLine G 16 ((kV T r_81.1 : Nat) : Int) ((kV T r_83.1 : Nat) : Int) ((kV T r_86.1 : Nat) : Int) ((kV T r_89.1 : Nat) : Int)) (gS G) = _ from up_at, show g2 (gLine G 16 ((kV T r_81.1 : Nat) : Int) ((kV T r_83.1 : Nat) : Int) ((kV T r_86.1 : Nat) : Int) ((kV T r_89.1 : Nat) : Int)) (gS G) = _ from up_at, show g3 (gLine G 16 ((kV T r_81.1 : Nat) : Int) ((kV T r_83.1 : Nat) : Int) ((kV T r_86.1 : Nat) : Int) ((kV T r_89.1 : Nat) : Int)) (gS G) = _ from up_at, show g4 (gLine G 16 ((kV T r_81.1 : Nat) : Int) ((kV T r_83.1 : Nat) : Int) ((kV T r_86.1 : Nat) : Int) ((kV T r_89.1 : Nat) : Int)) (gS G) = _ from up_at]
      refine ⟨fun _ _ => ?_, fun c => absurd c (by decide), fun _ => ⟨?_, ?_⟩, fun c => absurd c (by decide), fun _ => ?_⟩
      · rw [h_N93, h_N90, h_N87, h_N84, h_N80]
        show (va_up (va_up (va_up (va_up (va_up (va_up (va_up (va_up (va_up (M.2.1 324) (5 * gS G) 0) (5 * gS G + 1) 0) (5 * gS G + 2) 0) (5 * gS G + 3) 0) (5 * gS G + 4) 0) (5 * gS G) z_82) (5 * gS G + 1) z_85) (5 * gS G + 2) z_88) (5 * gS G + 3) z_91) (5 * gS G) = _
        repeat (first | rw [up_at] | rw [up_ne (by omega)])
        exact v_z_82
      · rw [h_N93, h_N90, h_N87, h_N84, h_N80]
        show (va_up (va_up (va_up (va_up (va_up (va_up (va_up (va_up (va_up (M.2.1 324) (5 * gS G) 0) (5 * gS G + 1) 0) (5 * gS G + 2) 0) (5 * gS G + 3) 0) (5 * gS G + 4) 0) (5 * gS G) z_82) (5 * gS G + 1) z_85) (5 * gS G + 2) z_88) (5 * gS G + 3) z_91) (5 * gS G + 1) = _
        repeat (first | rw [up_at] | rw [up_ne (by omega)])
        exact v_z_85
      · rw [h_N93, h_N90, h_N87, h_N84, h_N80]
        show (va_up (va_up (va_up (va_up (va_up (va_up (va_up (va_up (va_up (M.2.1 324) (5 * gS G) 0) (5 * gS G + 1) 0) (5 * gS G + 2) 0) (5 * gS G + 3) 0) (5 * gS G + 4) 0) (5 * gS G) z_82) (5 * gS G + 1) z_85) (5 * gS G + 2) z_88) (5 * gS G + 3) z_91) (5 * gS G + 2) = _
        repeat (first | rw [up_at] | rw [up_ne (by omega)])
        exact v_z_88
      · rw [h_N93, h_N90, h_N87, h_N84, h_N80]
        show (va_up (va_up (va_up (va_up (va_up (va_up (va_up (va_up (va_up (M.2.1 324) (5 * gS G) 0) (5 * gS G + 1) 0) (5 * gS G + 2) 0) (5 * gS G + 3) 0) (5 * gS G + 4) 0) (5 * gS G) z_82) (5 * gS G + 1) z_85) (5 * gS G + 2) z_88) (5 * gS G + 3) z_91) (5 * gS G + 3) = _
        repeat (first | rw [up_at] | rw [up_ne (by omega)])
        exact v_z_91
