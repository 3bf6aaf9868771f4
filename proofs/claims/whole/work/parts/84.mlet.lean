/-! the model's readLet; readLines as a whole -/
theorem sst_clsL {G Y : gPr} {m : Nat} (hd0 : gD G = 0) (h : sst (gOpen (gName (gLine G 13 0 0 0 0) m (gS G)) (gS G)) Y) : sst G (gClose Y) ∧ gO Y (gD Y - 1) = gS G ∧ gA Y (gO Y (gD Y - 1)) = 13 ∧ gD Y = 1 ∧ gT Y = gT G ∧ gN Y (gT G) = m ∧ gL Y (gT G) = gS G := by
  obtain ⟨h1, h2, h3, h4, h5⟩ := h
  have eD : gD Y = gD G + 1 := h1
  have eO : gO Y (gD Y - 1) = gS G := by
    rw [eD, Nat.add_sub_cancel, h2 (gD G) (by show gD G < gD G + 1; omega)]
    exact up_at
  have eA : gA Y (gO Y (gD Y - 1)) = 13 := by
    rw [eO, h4 (gS G) (by show gS G < gS G + 1; omega)]
    show va_up (gA G) (gS G) 13 (gS G) = 13
    rw [up_at]
  have h5 := h5 (by show 0 < gD G + 1; omega)
  refine ⟨⟨by show gD Y - 1 = gD G; omega, fun q hq => by omega, ?_, fun i hi => ?_, fun q => by omega⟩, eO, eA, by omega, h5.1, ?_, ?_⟩
  · have h3 : gS G + 1 ≤ gS Y := h3
    show gS G ≤ gS Y
    omega
  · show gA Y i = gA G i
    rw [h4 i (by show i < gS G + 1; omega)]
    show va_up (gA G) (gS G) 13 i = gA G i
    rw [up_ne (by omega)]
  · rw [h5.2.1]; exact up_at
  · rw [h5.2.2]; exact up_at
set_option maxHeartbeats 8000000 in
theorem ltt {n : Nat} (hI : RLp n 4) : LTp (n + 2) := by
  intro M T r G hM hd0 hk
  obtain ⟨hS, hT, hC, hW, hx, z_r, hG⟩ := id hM
  have o_r := hx.1
  obtain ⟨⟨u, ns, hP⟩, hp⟩ := hx.2 z_r
  have hP : PV G u ns := hP
  have h125 : gS G < 125 := pos_125 hT o_r hp (by show 10 ≤ kK T r.1 ∧ kK T r.1 ≤ 16; omega)
  have i_r : 0 ≤ r.2 ∧ r.2 ≤ 16005 := o_r.2
  have t_r : r.1 ≤ T.1 := o_r.1
  have hT1 := hT.1
  have hg := hP.ok
  have hg2 := hg.2.1
  have l_r := K_lt (i := r.1) hT t_r (by omega)
  have hcu : cOu T r G = r := if_neg (by omega)
  have hnr : ¬ rdn T (r, G) := nrd z_r (Or.inl (by show ¬ kK T r.1 = 22; omega))
  have hpl := pst_13 (T := T) (r := r) (G := G) hk
  refine ct_in (d := (n + 6)) kX12_readLet rfl (by decide) (Nat.le_of_ble_eq_true rfl) (by decide) ?_
  show Go (Ct (n + 6)) _ yX12_readLet cX12_readLet none 0 0 0 [some (.ref 317), none, none, none] [] (mM M r)
  refine r_aload0 (pc2 := 1) dX12_readLet_0 rfl ?_
  refine r_getI (z := ((gT G : Nat) : Int)) (pc2 := 4) dX12_readLet_1 rfl (Or.inl fX12_208) (hK_317 hS) hG.2.1 ?_
  refine r_bipush (pc2 := 6) dX12_readLet_4 rfl (by decide) (by decide) ?_
  refine r_icne (tgt := 15) (pc2 := 9) dX12_readLet_6 rfl (by decide) ⟨by omega, by omega⟩ ⟨by omega, by omega⟩ (fun b_6 => ?_) (fun b_6 => ?_)
  · refine r_aload0 (pc2 := 16) dX12_readLet_15 rfl ?_
    refine r_iconst (pc2 := 17) dX12_readLet_16 rfl ?_
    refine r_cv1 (pc2 := 20) dX12_readLet_17 rfl vX12_229 (hK_317 hS) (by decide) (c_X12_emit (d := n + 5) (M := mM M r) (i := gS G) (c := 3) hS hG.1 h125) ?_
    rintro _ M9 ⟨rfl, h9⟩
    rw [eM_m] at h9
    rw [h9]
    obtain ⟨N114, h_N114⟩ : ∃ x, x = eM M (gS G) 3 := ⟨_, rfl⟩
    rw [← h_N114]
    have p_N114 : frP M N114 := by rw [h_N114]; exact frP.rf.e
    have hS_N114 : sOk N114.1 := p_N114.1.ok hS
    have hC_N114 : mT N114 T := hC.fp p_N114
    have hW_N114 : mWd N114 := hW.fp p_N114
    show Go (Ct (n + 6)) _ yX12_readLet cX12_readLet none 0 0 20 [some (.ref 317), none, none, none] [.int (iI ((gS G : Nat) : Int))] (mM N114 r)
    refine r_istore1 (pc2 := 21) dX12_readLet_20 rfl rfl ?_
    refine r_aload0 (pc2 := 22) dX12_readLet_21 rfl ?_
    refine r_dup (pc2 := 23) dX12_readLet_22 rfl rfl ?_
    refine r_getI (z := ((r.1 : Nat) : Int)) (pc2 := 26) dX12_readLet_23 rfl (Or.inl fX12_179) (hK_317 hS_N114) mM_t ?_
    refine r_iconst (pc2 := 27) dX12_readLet_26 rfl ?_
    refine r_iadd (c := (((r.1 + 1) : Nat) : Int)) (pc2 := 28) dX12_readLet_27 rfl (by omega) ?_
    refine r_putI (z := (((r.1 + 1) : Nat) : Int)) (pc2 := 31) dX12_readLet_28 rfl fX12_179 (w12_7 _) (hK_317 hS_N114) (by decide) ?_
    refine r_aload0 (pc2 := 32) dX12_readLet_31 rfl ?_
    rw [mM_a]
    obtain ⟨r_115, e_r_115⟩ : ∃ x, x = av T r := ⟨_, rfl⟩
    have q_r_115 : r_115 = (r.1 + 1, 0) := by rw [e_r_115, av_y z_r l_r]
    rw [show ((r.1 + 1, r.2) : rdT) = r_115 from by rw [q_r_115, z_r]]
    have o_r_115 : rOk T r_115 := by rw [e_r_115]; exact o_r.a
    have z_r_115 : r_115.2 = 0 := by rw [q_r_115]
    have i_r_115 := o_r_115.2
    have t_r_115 := o_r_115.1
    refine r_cv0 (pc2 := 35) dX12_readLet_32 rfl vX12_243 (hK_317 hS_N114) (by decide) (c_X12_isName (d := n + 5) (M := N114) (r := r_115) hS_N114 hT hC_N114 o_r_115 hW_N114) ?_
    rintro _ M9 ⟨h9, ⟨hqn, rfl⟩ | ⟨hqn, rfl⟩⟩
    · rw [h9]
      show Go (Ct (n + 6)) _ yX12_readLet cX12_readLet none 0 0 35 [some (.ref 317), some (.int (iI ((gS G : Nat) : Int))), none, none] [.int (iI 1)] (mM N114 r_115)
      refine r_ifne (tgt := 46) (pc2 := 38) dX12_readLet_35 rfl (by decide) ⟨by omega, by omega⟩ (fun _ => ?_) (fun h9 => absurd h9 (by decide))
      refine r_aload0 (pc2 := 47) dX12_readLet_46 rfl ?_
      refine r_cv0 (pc2 := 50) dX12_readLet_47 rfl vX12_247 (hK_317 hS_N114) (by decide) (c_X12_findName (d := n + 5) (M := N114) (r := r_115) (G := G) hS_N114 hT hC_N114 o_r_115 (by unfold isW; omega) hg2 (by rw [h_N114]; exact hG.2.1) (fun k hk9 => ⟨by rw [h_N114]; exact (hG.2.2.2 k hk9).1, (hP.2.1 k (by omega)).1⟩) (fun j k hj hk9 => hP.2.2.1 j k (by omega) (by omega))) ?_
      rintro _ M9 ⟨rfl, h9⟩
      rw [h9]
      have hfr := fnd_r (nm := gN G) (x := kI T r_115.1) (gT G) 0
      have hfb : -1 ≤ fnN G (kI T r_115.1) ∧ fnN G (kI T r_115.1) < 30 := by rcases hfr with ⟨g1, -⟩ | ⟨j, g1, g2, -, g3⟩; (have : fnN G (kI T r_115.1) = -1 := g1; omega); (have : fnN G (kI T r_115.1) = (j : Int) := g3; omega)
      show Go (Ct (n + 6)) _ yX12_readLet cX12_readLet none 0 0 50 [some (.ref 317), some (.int (iI ((gS G : Nat) : Int))), none, none] [.int (iI (fnN G (kI T r_115.1)))] (mM N114 r_115)
      refine r_iflt (tgt := 58) (pc2 := 53) dX12_readLet_50 rfl (by decide) ⟨by omega, by omega⟩ (fun b_50 => ?_) (fun b_50 => ?_)
      · refine r_aload0 (pc2 := 59) dX12_readLet_58 rfl ?_
        refine r_getI (z := r_115.2) (pc2 := 62) dX12_readLet_59 rfl (Or.inl fX12_182) (hK_317 hS_N114) mM_f ?_
        refine r_ifle (tgt := 66) (pc2 := 65) dX12_readLet_62 rfl (by decide) ⟨by omega, by omega⟩ (fun b_62 => ?_) (fun b_62 => ?_)
        · have l_r_115 := K_lt hT o_r_115.1 (by omega)
          have hv321 : (mM N114 r_115).2.2 321 r_115.1 = lN (m37 8 (kI T r_115.1)) := hC_N114.2.2.1 r_115.1 l_r_115 (by unfold isW; omega)
          refine r_aload0 (pc2 := 67) dX12_readLet_66 rfl ?_
          refine r_getR (pc2 := 70) dX12_readLet_67 rfl fX12_30 (hK_317 hS_N114) (hR_317_6 hS_N114) ?_
          refine r_aload0 (pc2 := 71) dX12_readLet_70 rfl ?_
          refine r_getI (z := ((r_115.1 : Nat) : Int)) (pc2 := 74) dX12_readLet_71 rfl (Or.inl fX12_179) (hK_317 hS_N114) mM_t ?_
          refine r_lald (z := (lN (m37 8 (kI T r_115.1)))) (pc2 := 75) dX12_readLet_74 rfl (hK_321 hS_N114) (r_115.1) rfl (by omega) hv321 ?_
          refine r_lstore2 (pc2 := 76) dX12_readLet_75 rfl rfl ?_
          refine r_aload0 (pc2 := 77) dX12_readLet_76 rfl ?_
          refine r_dup (pc2 := 78) dX12_readLet_77 rfl rfl ?_
          refine r_getI (z := ((r_115.1 : Nat) : Int)) (pc2 := 81) dX12_readLet_78 rfl (Or.inl fX12_179) (hK_317 hS_N114) mM_t ?_
          refine r_iconst (pc2 := 82) dX12_readLet_81 rfl ?_
          refine r_iadd (c := (((r_115.1 + 1) : Nat) : Int)) (pc2 := 83) dX12_readLet_82 rfl (by omega) ?_
          refine r_putI (z := (((r_115.1 + 1) : Nat) : Int)) (pc2 := 86) dX12_readLet_83 rfl fX12_179 (w12_7 _) (hK_317 hS_N114) (by decide) ?_
          refine r_aload0 (pc2 := 87) dX12_readLet_86 rfl ?_
          refine r_bipush (pc2 := 89) dX12_readLet_87 rfl (by decide) (by decide) ?_
          rw [mM_a]
          obtain ⟨r_116, e_r_116⟩ : ∃ x, x = av T r_115 := ⟨_, rfl⟩
          have q_r_116 : r_116 = (r_115.1 + 1, 0) := by rw [e_r_116, av_y z_r_115 l_r_115]
          rw [show ((r_115.1 + 1, r_115.2) : rdT) = r_116 from by rw [q_r_116, z_r_115]]
          have o_r_116 : rOk T r_116 := by rw [e_r_116]; exact o_r_115.a
          have z_r_116 : r_116.2 = 0 := by rw [q_r_116]
          have i_r_116 := o_r_116.2
          have t_r_116 := o_r_116.1
          refine r_cv1 (pc2 := 92) dX12_readLet_89 rfl vX12_226 (hK_317 hS_N114) (by decide) (c_X12_takeSign (d := n + 4) (M := N114) (r := r_116) (c := 40) hS_N114 hT hC_N114 o_r_116 (by omega)) ?_
          rintro _ M9 ⟨rfl, h9⟩
          obtain ⟨r_117, e_r_117⟩ : ∃ x, x = rK T 40 r_116 := ⟨_, rfl⟩
          rw [← e_r_117] at h9
          rw [h9]
          have o_r_117 : rOk T r_117 := by rw [e_r_117]; exact o_r_116.K hT
          have i_r_117 := o_r_117.2
          have t_r_117 := o_r_117.1
          show Go (Ct (n + 6)) _ yX12_readLet cX12_readLet none 0 0 92 [some (.ref 317), some (.int (iI ((gS G : Nat) : Int))), some (.long ((lN (m37 8 (kI T r_115.1))))), none] [] (mM N114 r_117)
          refine r_aload0 (pc2 := 93) dX12_readLet_92 rfl ?_
          refine r_iconst (pc2 := 94) dX12_readLet_93 rfl ?_
          refine r_iconst (pc2 := 95) dX12_readLet_94 rfl ?_
          obtain ⟨G1, eG1⟩ : ∃ x, x = gOpen (gName (gLine G 13 0 0 0 0) (kI T r_115.1) (gS G)) (gS G) := ⟨_, rfl⟩
          have hl : pst T (r, G) = (r_117, G1) := by
            rw [hpl, eG1]
            unfold lLet
            dsimp only
            rw [hcu, if_neg (show ¬ 30 ≤ gT G by omega), ← e_r_115, if_pos hqn.2, if_pos (show fnN G (kI T r_115.1) = -1 by omega), ← e_r_116, ← e_r_117]
          have hx1 : rSt T (r_117, G1) := by rw [← hl]; exact (hx.s hT z_r).1
          have eDD : gD G1 = 1 := by rw [eG1]; show gD G + 1 = 1; omega
          have eN : nst G1 = 0 := by
            have h9 : iL G1 = 1 := iL_1.mpr ⟨by omega, by
              rw [eG1]
              show va_up (gA G) (gS G) 13 (va_up (gO G) (gD G) (gS G) 0) = 13
              rw [hd0, up_at, up_at]⟩
            rw [nst_e]; omega
          have hMG : MG N114 G1 := by
            have hgl : MG N114 (gLine G 13 0 0 0 0) := by
              refine hG.line (a := 13) (by rw [h_N114]; rfl) (by rw [h_N114]; rfl) (by rw [h_N114]; rfl) (by rw [h_N114]; rfl) (fun j hj => ?_) (by rw [h_N114]; rfl) (by rw [h_N114]; rfl) ?_
              · rw [h_N114]
                show (va_up (va_up (va_up (va_up (va_up (M.2.1 324) (5 * gS G) 0) (5 * gS G + 1) 0) (5 * gS G + 2) 0) (5 * gS G + 3) 0) (5 * gS G + 4) 0) j = M.2.1 324 j
                repeat (first | rw [up_at] | rw [up_ne (by omega)])
              · unfold mArg
                rw [show gA (gLine G 13 0 0 0 0) (gS G) = 13 from up_at]
                exact ⟨fun c => absurd rfl c, fun c => absurd c (by decide), fun c => absurd c (by decide), fun c => absurd c (by decide), fun c => absurd c (by decide)⟩
            obtain ⟨m1, m2, m3, m4⟩ := hgl
            rw [eG1]
            refine ⟨m1, m2, fun i hi => ⟨(m3 i hi).1, (m3 i hi).2.1, ?_⟩, fun k hk9 => ?_⟩
            · obtain ⟨a1, a2, a3, a4, a5⟩ := (m3 i hi).2.2
              refine ⟨a1, fun c => ?_, a3, a4, a5⟩
              obtain ⟨k, k1, k2, k3⟩ := a2 c
              have k1 : k < gT G := k1
              refine ⟨k, k1, k2, ?_⟩
              show ((va_up (gL G) (gT G) (gS G) k : Nat) : Int) = _
              rw [up_ne (by omega)]; exact k3
            · have hk9 : k < gT G := hk9
              show _ = lN (m37 8 (va_up (gN G) (gT G) _ k)) ∧ _ = ((va_up (gL G) (gT G) _ k : Nat) : Int)
              rw [up_ne (by omega), up_ne (by omega)]
              exact m4 k hk9
          have hcall : Ct (n + 6) 0 0 yX12_readLines [.ref 317, .int (iI 0), .int (iI 0)] (mM N114 r_117) (fun v M2 => v = none ∧ RLq T N114 M2 (r_117, G1)) := by
            by_cases hz : r_117.2 = 0
            · have h9 := hI N114 T r_117 G1 ⟨hS_N114, hT, hC_N114, hW_N114, hx1, hz, hMG⟩ (by omega)
              rw [eN, if_neg (by omega)] at h9
              exact h9
            · exact Ct_mono (fun v M2 q => ⟨q.1, 0, (r_117, G1), N114, rfl, q.2, frP.rf, fun q2 => absurd q2 hz⟩) (c_X12_readLinesF (d := n) hS_N114 hT hC_N114 hW_N114 o_r_117 hz (Or.inl rfl))
          refine r_cv2 (pc2 := 98) dX12_readLet_95 rfl vX12_239 (hK_317 hS_N114) (by decide) hcall ?_
          rintro _ M9 ⟨rfl, j, y, Mz, s1, s2, s3, s4⟩
          rw [s2]
          obtain ⟨ry, Gy⟩ := y
          have hSz : sOk Mz.1 := s3.1.ok hS_N114
          have hCz : mT Mz T := hC_N114.fp s3
          have s5 := stn_st hT hx1 s1
          have o_ry : rOk T ry := s5.1.1
          have i_ry := o_ry.2
          have t_ry := o_ry.1
          show Go (Ct (n + 6)) _ yX12_readLet cX12_readLet none 0 0 98 [some (.ref 317), some (.int (iI ((gS G : Nat) : Int))), some (.long ((lN (m37 8 (kI T r_115.1))))), none] [] (mM Mz ry)
          refine r_aload0 (pc2 := 99) dX12_readLet_98 rfl ?_
          refine r_bipush (pc2 := 101) dX12_readLet_99 rfl (by decide) (by decide) ?_
          refine r_cv1 (pc2 := 104) dX12_readLet_101 rfl vX12_226 (hK_317 hSz) (by decide) (c_X12_takeSign (d := n + 4) (M := Mz) (r := ry) (c := 41) hSz hT hCz o_ry (by omega)) ?_
          rintro _ M8 ⟨rfl, h8⟩
          obtain ⟨r7, e7⟩ : ∃ x, x = rK T 41 ry := ⟨_, rfl⟩
          rw [← e7] at h8
          rw [h8]
          have o7 : rOk T r7 := by rw [e7]; exact o_ry.K hT
          have i7 := o7.2
          show Go (Ct (n + 6)) _ yX12_readLet cX12_readLet none 0 0 104 [some (.ref 317), some (.int (iI ((gS G : Nat) : Int))), some (.long ((lN (m37 8 (kI T r_115.1))))), none] [] (mM Mz r7)
          refine r_aload0 (pc2 := 105) dX12_readLet_104 rfl ?_
          refine r_getR (pc2 := 108) dX12_readLet_105 rfl fX12_77 (hK_317 hSz) (hR_317_13 hSz) ?_
          refine r_iload1 (pc2 := 109) dX12_readLet_108 rfl ?_
          refine r_aload0 (pc2 := 110) dX12_readLet_109 rfl ?_
          refine r_getI (z := ((mM Mz r7).2.1 317 10)) (pc2 := 113) dX12_readLet_110 rfl (Or.inl fX12_198) (hK_317 hSz) rfl ?_
          refine r_iast (z := ((mM Mz r7).2.1 317 10)) (pc2 := 114) dX12_readLet_113 rfl (hK_325 hSz) (by decide) (gS G) rfl (by omega) ?_
          refine r_aload0 (pc2 := 115) dX12_readLet_114 rfl ?_
          refine r_getI (z := r7.2) (pc2 := 118) dX12_readLet_115 rfl (Or.inl fX12_182) (hK_317 hSz) rfl ?_
          refine r_ifne (tgt := 151) (pc2 := 121) dX12_readLet_118 rfl (by decide) ⟨by omega, by omega⟩ (fun b_118 => ?_) (fun b_118 => ?_)
          · refine r_ret dX12_readLet_151 rfl ?_
            rw [mM_o (by omega)]
            refine ⟨rfl, ?_⟩
            have hst1 : stn T (j + 1) (r, G) (ry, Gy) := ⟨hnr, by rw [hl]; exact s1⟩
            by_cases hz : ry.2 = 0
            · obtain ⟨t1, t2, t3⟩ := s4 hz
              have t2 : sst G1 Gy := t2
              rw [eG1] at t2
              have t4 := sst_clsL hd0 t2
              have hDy : 0 < gD Gy := by have := t4.2.2.2.1; omega
              have t5 := pst_cl (T := T) (r := ry) (G := Gy) o_ry hz hDy t3
              refine ⟨j + 1, pst T (ry, Gy), _, r7, stn_tr hst1 (show stn T 1 (ry, Gy) (pst T (ry, Gy)) from ⟨nrd hz (Or.inr hDy), rfl⟩), rfl, ((p_N114)).tr (s3.tr (frP.rf.I (Or.inl (by decide)))), o7, by rw [e7]; exact t5.1.symm, fun q => absurd q b_118, fun q => absurd q (by rw [t5.1, ← e7, rK_n b_118]; exact b_118)⟩
            · have e8 : r7 = ry := by rw [e7, rK_n hz]
              refine ⟨j, (ry, Gy), _, r7, hst1, rfl, ((p_N114)).tr (s3.tr (frP.rf.I (Or.inl (by decide)))), o7, ?_, fun q => absurd q b_118, fun q => absurd q hz⟩
              rw [e8, rK_n hz]
          · clear hfr
            have h30 : gT G < 30 := by omega
            have z7 : r7.2 = 0 := by omega
            have hz : ry.2 = 0 := (rK_0 (k := 41) hT o_ry (by omega) (by rw [← e7]; exact z7)).1
            obtain ⟨t1, t2, t3⟩ := s4 hz
            have t2 : sst G1 Gy := t2
            rw [eG1] at t2
            have t4 := sst_clsL hd0 t2
            have hDy : 0 < gD Gy := by have := t4.2.2.2.1; omega
            have t5 := pst_cl (T := T) (r := ry) (G := Gy) o_ry hz hDy t3
            have gtm : Mz.2.1 317 14 = ((gT G : Nat) : Int) := by rw [t1.2.1, t4.2.2.2.2.1]
            refine r_aload0 (pc2 := 122) dX12_readLet_121 rfl ?_
            refine r_getR (pc2 := 125) dX12_readLet_122 rfl fX12_80 (hK_317 hSz) (hR_317_15 hSz) ?_
            refine r_aload0 (pc2 := 126) dX12_readLet_125 rfl ?_
            refine r_getI (z := ((gT G : Nat) : Int)) (pc2 := 129) dX12_readLet_126 rfl (Or.inl fX12_208) (hK_317 hSz) gtm ?_
            refine r_lload2 (pc2 := 130) dX12_readLet_129 rfl ?_
            refine r_last (pc2 := 131) dX12_readLet_130 rfl (hK_326 hSz) (by decide) (gT G) rfl (by omega) ?_
            refine r_aload0 (pc2 := 132) dX12_readLet_131 rfl ?_
            refine r_getR (pc2 := 135) dX12_readLet_132 rfl fX12_83 (hK_317 hSz) (hR_317_16 hSz) ?_
            refine r_aload0 (pc2 := 136) dX12_readLet_135 rfl ?_
            refine r_getI (z := ((gT G : Nat) : Int)) (pc2 := 139) dX12_readLet_136 rfl (Or.inl fX12_208) (hK_317 hSz) gtm ?_
            refine r_iload1 (pc2 := 140) dX12_readLet_139 rfl ?_
            refine r_iast (z := ((gS G : Nat) : Int)) (pc2 := 141) dX12_readLet_140 rfl (hK_327 hSz) (by decide) (gT G) rfl (by omega) ?_
            refine r_aload0 (pc2 := 142) dX12_readLet_141 rfl ?_
            refine r_dup (pc2 := 143) dX12_readLet_142 rfl rfl ?_
            refine r_getI (z := ((gT G : Nat) : Int)) (pc2 := 146) dX12_readLet_143 rfl (Or.inl fX12_208) (hK_317 hSz) gtm ?_
            refine r_iconst (pc2 := 147) dX12_readLet_146 rfl ?_
            refine r_iadd (c := ((gT G + 1 : Nat) : Int)) (pc2 := 148) dX12_readLet_147 rfl (by omega) ?_
            refine r_putI (z := ((gT G + 1 : Nat) : Int)) (pc2 := 151) dX12_readLet_148 rfl fX12_208 (w12_14 _) (hK_317 hSz) (by decide) ?_
            refine r_ret dX12_readLet_151 rfl ?_
            rw [mM_o (by omega), mM_J, mM_o (by omega), mM_o (by omega)]
            refine ⟨rfl, ?_⟩
            have hst1 : stn T (j + 1) (r, G) (ry, Gy) := ⟨hnr, by rw [hl]; exact s1⟩
            refine ⟨j + 1, pst T (ry, Gy), _, r7, stn_tr hst1 (show stn T 1 (ry, Gy) (pst T (ry, Gy)) from ⟨nrd hz (Or.inr hDy), rfl⟩), rfl, ?_, o7, by rw [e7]; exact t5.1.symm, fun q => ?_, fun q => ?_⟩
            · exact ((p_N114)).tr (s3.tr ⟨(((fr.rf.I (by decide)).J (by decide)).I (by decide)).I (by decide), fun k hk9 => pI_nk (by rintro rfl; exact hk9 (by decide))⟩)
            · rw [t5.2 (by rw [← e7]; exact z7)]
              have e9 : Mz.2.1 317 10 = ((gS Gy : Nat) : Int) := t1.1
              have h9 := t1.clsL (x := kI T r_115.1) t4.2.2.1 (by rw [t4.2.2.2.2.1]; exact t4.2.2.2.2.2.1) (by rw [t4.2.2.2.2.1, t4.2.1]; exact t4.2.2.2.2.2.2)
              rw [t4.2.1, t4.2.2.2.2.1] at h9
              show MG (pI (pI (pJ (pI Mz 325 (gS G) (Mz.2.1 317 10)) 326 (gT G) (lN (m37 8 (kI T r_115.1)))) 327 (gT G) ((gS G : Nat) : Int)) 317 14 (((gT G + 1 : Nat)) : Int)) (gClose Gy)
              rw [e9]; exact h9
            · rw [t5.2 (by rw [← e7]; exact z7)]; exact t4.1
        · refine r_ret dX12_readLet_65 rfl ?_
          exact absurd b_62 (by omega)
      · refine r_aload0 (pc2 := 54) dX12_readLet_53 rfl ?_
        refine r_iconst (pc2 := 55) dX12_readLet_54 rfl ?_
        refine r_cv1 (pc2 := 58) dX12_readLet_55 rfl vX12_188 (hK_317 hS_N114) (by decide) (c_X12_wrong (d := n + 5) (M := N114) (r := r_115) (w := 3) hS_N114 hT hC_N114 o_r_115 (by omega)) ?_
        rintro _ M9 ⟨rfl, h9⟩
        obtain ⟨r_118, e_r_118⟩ : ∃ x, x = fl T 3 r_115 := ⟨_, rfl⟩
        rw [← e_r_118] at h9
        rw [h9]
        have o_r_118 : rOk T r_118 := by rw [e_r_118]; exact o_r_115.f hT (by omega) (by omega)
        have i_r_118 := o_r_118.2
        have t_r_118 := o_r_118.1
        show Go (Ct (n + 6)) _ yX12_readLet cX12_readLet none 0 0 58 [some (.ref 317), some (.int (iI ((gS G : Nat) : Int))), none, none] [] (mM N114 r_118)
        refine r_aload0 (pc2 := 59) dX12_readLet_58 rfl ?_
        refine r_getI (z := r_118.2) (pc2 := 62) dX12_readLet_59 rfl (Or.inl fX12_182) (hK_317 hS_N114) mM_f ?_
        refine r_ifle (tgt := 66) (pc2 := 65) dX12_readLet_62 rfl (by decide) ⟨by omega, by omega⟩ (fun b_62 => ?_) (fun b_62 => ?_)
        · exact absurd b_62 (by have := fl_f (T := T) (w := 3) (r := r_115) (by omega) i_r_115.1; rw [← e_r_118] at this; omega)
        · refine r_ret dX12_readLet_65 rfl ?_
          have z9 : ¬ r_118.2 = 0 := by rw [e_r_118]; exact fl_f (by omega) i_r_115.1
          have hl : (pst T (r, G)).1 = r_118 := by
            rw [hpl]
            unfold lLet
            dsimp only
            rw [hcu, if_neg (show ¬ 30 ≤ gT G by omega), ← e_r_115, if_pos hqn.2, if_neg (show ¬ fnN G (kI T r_115.1) = -1 by omega), ← e_r_118, av_n z9, rK_n z9]
          exact ⟨rfl, 0, pst T (r, G), N114, r_118, ⟨hnr, rfl⟩, rfl, (p_N114), o_r_118, by rw [rK_n z9, hl], fun q => absurd q z9, fun q => absurd q (by rw [hl]; exact z9)⟩
    · rw [h9]
      show Go (Ct (n + 6)) _ yX12_readLet cX12_readLet none 0 0 35 [some (.ref 317), some (.int (iI ((gS G : Nat) : Int))), none, none] [.int (iI 0)] (mM N114 r_115)
      refine r_ifne (tgt := 46) (pc2 := 38) dX12_readLet_35 rfl (by decide) ⟨by omega, by omega⟩ (fun h9 => absurd h9 (by decide)) (fun _ => ?_)
      refine r_aload0 (pc2 := 39) dX12_readLet_38 rfl ?_
      refine r_iconst (pc2 := 40) dX12_readLet_39 rfl ?_
      refine r_cv1 (pc2 := 43) dX12_readLet_40 rfl vX12_188 (hK_317 hS_N114) (by decide) (c_X12_wrong (d := n + 5) (M := N114) (r := r_115) (w := 1) hS_N114 hT hC_N114 o_r_115 (by omega)) ?_
      rintro _ M9 ⟨rfl, h9⟩
      obtain ⟨r_119, e_r_119⟩ : ∃ x, x = fl T 1 r_115 := ⟨_, rfl⟩
      rw [← e_r_119] at h9
      rw [h9]
      have o_r_119 : rOk T r_119 := by rw [e_r_119]; exact o_r_115.f hT (by omega) (by omega)
      have i_r_119 := o_r_119.2
      have t_r_119 := o_r_119.1
      show Go (Ct (n + 6)) _ yX12_readLet cX12_readLet none 0 0 43 [some (.ref 317), some (.int (iI ((gS G : Nat) : Int))), none, none] [] (mM N114 r_119)
      refine r_goto (tgt := 58) dX12_readLet_43 (by decide) ?_
      refine r_aload0 (pc2 := 59) dX12_readLet_58 rfl ?_
      refine r_getI (z := r_119.2) (pc2 := 62) dX12_readLet_59 rfl (Or.inl fX12_182) (hK_317 hS_N114) mM_f ?_
      refine r_ifle (tgt := 66) (pc2 := 65) dX12_readLet_62 rfl (by decide) ⟨by omega, by omega⟩ (fun b_62 => ?_) (fun b_62 => ?_)
      · exact absurd b_62 (by have := fl_f (T := T) (w := 1) (r := r_115) (by omega) i_r_115.1; rw [← e_r_119] at this; omega)
      · refine r_ret dX12_readLet_65 rfl ?_
        have z9 : ¬ r_119.2 = 0 := by rw [e_r_119]; exact fl_f (by omega) i_r_115.1
        have c18 : ¬ kK T r_115.1 = 18 := fun e9 => hqn ⟨z_r_115, e9⟩
        have hl : (pst T (r, G)).1 = r_119 := by
          rw [hpl]
          unfold lLet
          dsimp only
          rw [hcu, if_neg (show ¬ 30 ≤ gT G by omega), ← e_r_115, if_neg c18, ← e_r_119, fl_n z9]
          have e4 : (if fnN G (kI T r_115.1) = -1 then r_119 else r_119) = r_119 := by split <;> rfl
          rw [e4, av_n z9, rK_n z9]
        exact ⟨rfl, 0, pst T (r, G), N114, r_119, ⟨hnr, rfl⟩, rfl, (p_N114), o_r_119, by rw [rK_n z9, hl], fun q => absurd q z9, fun q => absurd q (by rw [hl]; exact z9)⟩
  · refine r_aload0 (pc2 := 10) dX12_readLet_9 rfl ?_
    refine r_iconst (pc2 := 11) dX12_readLet_10 rfl ?_
    refine r_cv1 (pc2 := 14) dX12_readLet_11 rfl vX12_188 (hK_317 hS) (by decide) (c_X12_wrong (d := n + 5) (M := M) (r := r) (w := 5) hS hT hC o_r (by omega)) ?_
    rintro _ M9 ⟨rfl, h9⟩
    obtain ⟨r_120, e_r_120⟩ : ∃ x, x = fl T 5 r := ⟨_, rfl⟩
    rw [← e_r_120] at h9
    rw [h9]
    have o_r_120 : rOk T r_120 := by rw [e_r_120]; exact o_r.f hT (by omega) (by omega)
    have i_r_120 := o_r_120.2
    have t_r_120 := o_r_120.1
    show Go (Ct (n + 6)) _ yX12_readLet cX12_readLet none 0 0 14 [some (.ref 317), none, none, none] [] (mM M r_120)
    refine r_ret dX12_readLet_14 rfl ?_
    have z9 : ¬ r_120.2 = 0 := by rw [e_r_120]; exact fl_f (by omega) i_r.1
    have hl : (pst T (r, G)).1 = r_120 := by
      rw [hpl]
      unfold lLet
      dsimp only
      rw [hcu, if_pos (show 30 ≤ gT G by omega), ← e_r_120, av_n z9, fl_n z9]
      have e3 : (if kK T r_120.1 = 18 then r_120 else r_120) = r_120 := by split <;> rfl
      rw [e3, fl_n z9]
      have e4 : (if fnN G (kI T r_120.1) = -1 then r_120 else r_120) = r_120 := by split <;> rfl
      rw [e4, av_n z9, rK_n z9]
    exact ⟨rfl, 0, pst T (r, G), M, r_120, ⟨hnr, rfl⟩, rfl, frP.rf, o_r_120, by rw [rK_n z9, hl], fun q => absurd q z9, fun q => absurd q (by rw [hl]; exact z9)⟩
theorem rl_all : ∀ (n e : Nat), e ≤ 4 → RLp (n + 2 * e) e := by
  intro n e
  induction e with
  | zero => intro _; exact rln blk0 (fun q => absurd q (by decide))
  | succ e ih =>
    intro he
    exact rln (blk (ih (by omega))) (fun q => by omega)
theorem rl_5 (n : Nat) : RLp (n + 10) 5 := rln (blk (rl_all n 4 (Nat.le_refl _))) (fun _ => ltt (rl_all n 4 (Nat.le_refl _)))
