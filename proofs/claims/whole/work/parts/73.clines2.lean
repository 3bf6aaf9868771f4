/-! the class's again, mirror, lane, hopper, and what ends LINES -/
set_option maxHeartbeats 4000000 in
theorem c_X4_readAgain {d : Nat} {M : pM} {T : tD} {r : rdT} {G : gPr} (hS : sOk M.1) (hT : tOk T) (hC : cT M T) (o_r : rOk T r) (hr : r.2 = 0) (hG : CG M G) (hg : gOk G) (h125 : gS G < 125) : Ct (d + 5) 0 0 yX4_readAgain [.ref 9] (rM M r) (fun v M2 => v = none ∧ cPo M M2 (lAgain T r G)) := by
  refine ct_in (d := (d + 4)) kX4_readAgain rfl (by decide) (Nat.le_of_ble_eq_true rfl) (by decide) ?_
  show Go (Ct (d + 4)) _ yX4_readAgain cX4_readAgain none 0 0 0 [some (.ref 9), none, none, none, none] [] (rM M r)
  have hT1 := hT.1
  have i_r := o_r.2
  have hg1 := hg.1
  have hg2 := hg.2.1
  have hg3 := hg.2.2.1
  refine r_aload0 (pc2 := 1) dX4_readAgain_0 rfl ?_
  refine r_cv0 (pc2 := 4) dX4_readAgain_1 rfl vX4_122 (hK_9 hS) (by decide) (c_X4_checkNested (d := d + 2) (M := M) (r := r) (G := G) hS hT hC o_r hG hg) ?_
  rintro _ M9 ⟨rfl, h9⟩
  obtain ⟨r_121, e_r_121⟩ : ∃ x, x = cNs T r G := ⟨_, rfl⟩
  rw [← e_r_121] at h9
  rw [h9]
  have o_r_121 : rOk T r_121 := by rw [e_r_121]; exact rOk_cNs hT o_r
  have i_r_121 := o_r_121.2
  show Go (Ct (d + 4)) _ yX4_readAgain cX4_readAgain none 0 0 4 [some (.ref 9), none, none, none, none] [] (rM M r_121)
  refine r_aload0 (pc2 := 5) dX4_readAgain_4 rfl ?_
  refine r_bipush (pc2 := 7) dX4_readAgain_5 rfl (by decide) (by decide) ?_
  refine r_cv1 (pc2 := 10) dX4_readAgain_7 rfl vX4_100 (hK_9 hS) (by decide) (c_X4_bg (d := d + 2) (M := M) (r := r_121) (G := G) (a := 11) hS hT hC o_r_121 hG hg h125) ?_
  rintro _ M9 (⟨hf_r_122, rfl, h9⟩ | ⟨hf_r_122, rfl, h9⟩)
  · obtain ⟨r_122, e_r_122⟩ : ∃ x, x = av T r_121 := ⟨_, rfl⟩
    rw [← e_r_122] at h9
    obtain ⟨M1, h1⟩ : ∃ x, x = pI (pI (pI M 10 (gS G) 11) 11 (gS G) (((gS G + 1 : Nat)) : Int)) 9 11 (((gS G + 1 : Nat)) : Int) := ⟨_, rfl⟩
    rw [← h1] at h9
    rw [h9]
    have o_r_122 : rOk T r_122 := by rw [e_r_122]; exact o_r_121.a
    have i_r_122 := o_r_122.2
    have hS_M1 : sOk M1.1 := by rw [h1]; exact hS
    have hC_M1 : cT M1 T := by rw [h1]; exact hC
    show Go (Ct (d + 4)) _ yX4_readAgain cX4_readAgain none 0 0 10 [some (.ref 9), none, none, none, none] [.int (iI ((gS G : Nat) : Int))] (rM M1 r_122)
    refine r_istore1 (pc2 := 11) dX4_readAgain_10 rfl rfl ?_
    refine r_aload0 (pc2 := 12) dX4_readAgain_11 rfl ?_
    refine r_iconst (pc2 := 13) dX4_readAgain_12 rfl ?_
    refine r_bipush (pc2 := 15) dX4_readAgain_13 rfl (by decide) (by decide) ?_
    refine r_cv2 (pc2 := 18) dX4_readAgain_15 rfl vX4_111 (hK_9 hS_M1) (by decide) (c_X4_readNumber (d := d + 2) (M := M1) (r := r_122) (lo := 1) (hi := 12) hS_M1 hT hC_M1 o_r_122 ⟨by omega, by omega⟩ ⟨by omega, by omega⟩) ?_
    rintro _ M9 ⟨z_123, hz_z_123, rfl, h9, hv_z_123⟩
    obtain ⟨z_1231, z_1232⟩ := hz_z_123
    obtain ⟨r_124, e_r_124⟩ : ∃ x, x = rN T 1 12 r_122 := ⟨_, rfl⟩
    rw [← e_r_124] at h9
    rw [h9]
    have o_r_124 : rOk T r_124 := by rw [e_r_124]; exact o_r_122.N hT
    have i_r_124 := o_r_124.2
    show Go (Ct (d + 4)) _ yX4_readAgain cX4_readAgain none 0 0 18 [some (.ref 9), some (.int (iI ((gS G : Nat) : Int))), none, none, none] [.int (iI z_123)] (rM M1 r_124)
    refine r_istore2 (pc2 := 19) dX4_readAgain_18 rfl rfl ?_
    refine r_aload0 (pc2 := 20) dX4_readAgain_19 rfl ?_
    refine r_bipush (pc2 := 22) dX4_readAgain_20 rfl (by decide) (by decide) ?_
    refine r_cv1 (pc2 := 25) dX4_readAgain_22 rfl vX4_115 (hK_9 hS_M1) (by decide) (c_X4_readKind (d := d + 2) (M := M1) (r := r_124) (k := 17) hS_M1 hT hC_M1 o_r_124 ⟨by omega, by omega⟩) ?_
    rintro _ M9 ⟨rfl, h9⟩
    obtain ⟨r_125, e_r_125⟩ : ∃ x, x = rK T 17 r_124 := ⟨_, rfl⟩
    rw [← e_r_125] at h9
    rw [h9]
    have o_r_125 : rOk T r_125 := by rw [e_r_125]; exact o_r_124.K hT
    have i_r_125 := o_r_125.2
    show Go (Ct (d + 4)) _ yX4_readAgain cX4_readAgain none 0 0 25 [some (.ref 9), some (.int (iI ((gS G : Nat) : Int))), some (.int (iI z_123)), none, none] [] (rM M1 r_125)
    refine r_aload0 (pc2 := 26) dX4_readAgain_25 rfl ?_
    refine r_cv0 (pc2 := 29) dX4_readAgain_26 rfl vX4_125 (hK_9 hS_M1) (by decide) (c_X4_readShift (d := d + 1) (M := M1) (r := r_125) hS_M1 hT hC_M1 o_r_125) ?_
    rintro _ M9 ⟨z_126, hz_z_126, rfl, h9, hv_z_126⟩
    obtain ⟨z_1261, z_1262⟩ := hz_z_126
    obtain ⟨r_127, e_r_127⟩ : ∃ x, x = rS T r_125 := ⟨_, rfl⟩
    rw [← e_r_127] at h9
    rw [h9]
    have o_r_127 : rOk T r_127 := by rw [e_r_127]; exact o_r_125.S hT
    have i_r_127 := o_r_127.2
    show Go (Ct (d + 4)) _ yX4_readAgain cX4_readAgain none 0 0 29 [some (.ref 9), some (.int (iI ((gS G : Nat) : Int))), some (.int (iI z_123)), none, none] [.int (iI z_126)] (rM M1 r_127)
    refine r_istore3 (pc2 := 30) dX4_readAgain_29 rfl rfl ?_
    refine r_aload0 (pc2 := 31) dX4_readAgain_30 rfl ?_
    refine r_cv0 (pc2 := 34) dX4_readAgain_31 rfl vX4_125 (hK_9 hS_M1) (by decide) (c_X4_readShift (d := d + 1) (M := M1) (r := r_127) hS_M1 hT hC_M1 o_r_127) ?_
    rintro _ M9 ⟨z_128, hz_z_128, rfl, h9, hv_z_128⟩
    obtain ⟨z_1281, z_1282⟩ := hz_z_128
    obtain ⟨r_129, e_r_129⟩ : ∃ x, x = rS T r_127 := ⟨_, rfl⟩
    rw [← e_r_129] at h9
    rw [h9]
    have o_r_129 : rOk T r_129 := by rw [e_r_129]; exact o_r_127.S hT
    have i_r_129 := o_r_129.2
    show Go (Ct (d + 4)) _ yX4_readAgain cX4_readAgain none 0 0 34 [some (.ref 9), some (.int (iI ((gS G : Nat) : Int))), some (.int (iI z_123)), some (.int (iI z_126)), none] [.int (iI z_128)] (rM M1 r_129)
    refine r_istore4 (pc2 := 36) dX4_readAgain_34 rfl rfl ?_
    refine r_aload0 (pc2 := 37) dX4_readAgain_36 rfl ?_
    refine r_iload1 (pc2 := 38) dX4_readAgain_37 rfl ?_
    refine r_iload2 (pc2 := 39) dX4_readAgain_38 rfl ?_
    refine r_iload3 (pc2 := 40) dX4_readAgain_39 rfl ?_
    refine r_iload4 (pc2 := 42) dX4_readAgain_40 rfl ?_
    refine r_iconst (pc2 := 43) dX4_readAgain_42 rfl ?_
    refine r_cv5 (pc2 := 46) dX4_readAgain_43 rfl vX4_118 (hK_9 hS_M1) (by decide) (c_X4_write (d := d + 3) (M := rM M1 r_129) (i := (gS G)) (x := z_123) (y := z_126) (z := z_128) (w := 0) hS_M1 (by omega)) ?_
    rintro _ M9 ⟨rfl, h9⟩
    rw [rM_o (by omega), rM_o (by omega), rM_o (by omega), rM_o (by omega)] at h9
    obtain ⟨W130, h_W130⟩ : ∃ x, x = pI (pI (pI (pI M1 12 (gS G) z_123) 13 (gS G) z_126) 14 (gS G) z_128) 15 (gS G) 0 := ⟨_, rfl⟩
    rw [← h_W130] at h9
    rw [h9]
    have hS_W130 : sOk W130.1 := by rw [h_W130]; exact hS_M1
    have hC_W130 : cT W130 T := by rw [h_W130]; exact hC_M1
    show Go (Ct (d + 4)) _ yX4_readAgain cX4_readAgain none 0 0 46 [some (.ref 9), some (.int (iI ((gS G : Nat) : Int))), some (.int (iI z_123)), some (.int (iI z_126)), some (.int (iI z_128))] [] (rM W130 r_129)
    refine r_aload0 (pc2 := 47) dX4_readAgain_46 rfl ?_
    refine r_iload1 (pc2 := 48) dX4_readAgain_47 rfl ?_
    refine r_cv1 (pc2 := 51) dX4_readAgain_48 rfl vX4_128 (hK_9 hS_W130) (by decide) (c_X4_readOpen (d := d + 1) (M := W130) (r := r_129) (G := G) (i := ((gS G : Nat) : Int)) hS_W130 hT hC_W130 o_r_129 (by rw [h_W130]; first | exact hG.2.2.1 | (rw [h1]; exact hG.2.2.1)) hg3 (fun q7 => by have q8 := rK_0 (k := 40) hT o_r_129 (by omega) q7; have f_r_129 := rS_0 hT o_r_127 (by rw [← e_r_129]; exact q8.1); have v_z_128 := hv_z_128 (by rw [← e_r_129]; exact q8.1); have f_r_127 := rS_0 hT o_r_125 (by rw [← e_r_127]; exact f_r_129.1); have v_z_126 := hv_z_126 (by rw [← e_r_127]; exact f_r_129.1); have f_r_125 := rK_0 (k := 17) hT o_r_124 (by omega) (by rw [← e_r_125]; exact f_r_127.1); have f_r_124 := rN_0 (lo := 1) (hi := 12) hT o_r_122 (by rw [← e_r_124]; exact f_r_125.1); have v_z_123 := hv_z_123 (by rw [← e_r_124]; exact f_r_125.1); have f_r_122 : r_121.2 = 0 := av_0 (by rw [← e_r_122]; exact f_r_124.1); have q6 := cNs_0 o_r (by rw [← e_r_121]; exact f_r_122); have := nst_le (G := G); omega)) ?_
    rintro _ M9 ⟨rfl, ⟨hf9, h9⟩ | ⟨hf9, h9⟩⟩
    · obtain ⟨r_131, e_r_131⟩ : ∃ x, x = rK T 40 r_129 := ⟨_, rfl⟩
      rw [← e_r_131] at h9 hf9
      obtain ⟨W132, h_W132⟩ : ∃ x, x = pI (pI W130 18 (gD G) ((gS G : Nat) : Int)) 9 13 (((gD G + 1 : Nat)) : Int) := ⟨_, rfl⟩
      rw [← h_W132] at h9
      rw [h9]
      have o_r_131 : rOk T r_131 := by rw [e_r_131]; exact o_r_129.K hT
      have i_r_131 := o_r_131.2
      show Go (Ct (d + 4)) _ yX4_readAgain cX4_readAgain none 0 0 51 [some (.ref 9), some (.int (iI ((gS G : Nat) : Int))), some (.int (iI z_123)), some (.int (iI z_126)), some (.int (iI z_128))] [] (rM W132 r_131)
      refine r_ret dX4_readAgain_51 rfl ?_
      have hl : lAgain T r G = (r_131, gOpen (gLine G 11 ((kV T r_122.1 : Nat) : Int) (sV T r_125) (sV T r_127) 0) (gS G)) := by
        unfold lAgain
        dsimp only
        rw [← e_r_121, ← e_r_122, ← e_r_124, ← e_r_125, ← e_r_127, ← e_r_129, ← e_r_131]
      rw [hl]
      refine ⟨rfl, (by rw [h_W132, h_W130, h1]; exact (fr.I (fr.I (fr.I (fr.I (fr.I (fr.I (fr.I (fr.I (fr.I (fr.I (fr.I fr.rf (by decide)) (by decide)) (by decide)) (by decide)) (by decide)) (by decide)) (by decide)) (by decide)) (by decide)) (by decide)) (by decide))), rfl, fun q => ⟨rfl, ?_⟩⟩
      have f_r_131 := rK_0 (k := 40) hT o_r_129 (by omega) (by rw [← e_r_131]; exact q)
      have f_r_129 := rS_0 hT o_r_127 (by rw [← e_r_129]; exact f_r_131.1)
      have v_z_128 := hv_z_128 (by rw [← e_r_129]; exact f_r_131.1)
      have f_r_127 := rS_0 hT o_r_125 (by rw [← e_r_127]; exact f_r_129.1)
      have v_z_126 := hv_z_126 (by rw [← e_r_127]; exact f_r_129.1)
      have f_r_125 := rK_0 (k := 17) hT o_r_124 (by omega) (by rw [← e_r_125]; exact f_r_127.1)
      have f_r_124 := rN_0 (lo := 1) (hi := 12) hT o_r_122 (by rw [← e_r_124]; exact f_r_125.1)
      have v_z_123 := hv_z_123 (by rw [← e_r_124]; exact f_r_125.1)
      have f_r_122 : r_121.2 = 0 := av_0 (by rw [← e_r_122]; exact f_r_124.1)
      rw [h_W132, h_W130, h1, v_z_123, v_z_126, v_z_128]
      exact (CG.opn (CG.line hG hg) (fun _ => by show ¬ va_up (gA G) (gS G) 11 (gS G) = 13; rw [up_at]; decide)).r
    · obtain ⟨r_131, e_r_131⟩ : ∃ x, x = rK T 40 r_129 := ⟨_, rfl⟩
      rw [← e_r_131] at h9 hf9
      rw [h9]
      have o_r_131 : rOk T r_131 := by rw [e_r_131]; exact o_r_129.K hT
      have i_r_131 := o_r_131.2
      show Go (Ct (d + 4)) _ yX4_readAgain cX4_readAgain none 0 0 51 [some (.ref 9), some (.int (iI ((gS G : Nat) : Int))), some (.int (iI z_123)), some (.int (iI z_126)), some (.int (iI z_128))] [] (rM W130 r_131)
      refine r_ret dX4_readAgain_51 rfl ?_
      have hl : lAgain T r G = (r_131, gOpen (gLine G 11 ((kV T r_122.1 : Nat) : Int) (sV T r_125) (sV T r_127) 0) (gS G)) := by
        unfold lAgain
        dsimp only
        rw [← e_r_121, ← e_r_122, ← e_r_124, ← e_r_125, ← e_r_127, ← e_r_129, ← e_r_131]
      rw [hl]
      refine ⟨rfl, (by rw [h_W130, h1]; exact (fr.I (fr.I (fr.I (fr.I (fr.I (fr.I (fr.I (fr.I (fr.I fr.rf (by decide)) (by decide)) (by decide)) (by decide)) (by decide)) (by decide)) (by decide)) (by decide)) (by decide))), rfl, fun q => ⟨rfl, ?_⟩⟩
      exact absurd q hf9
  · obtain ⟨r_122, e_r_122⟩ : ∃ x, x = av T r_121 := ⟨_, rfl⟩
    rw [← e_r_122] at h9
    rw [h9]
    have o_r_122 : rOk T r_122 := by rw [e_r_122]; exact o_r_121.a
    have i_r_122 := o_r_122.2
    show Go (Ct (d + 4)) _ yX4_readAgain cX4_readAgain none 0 0 10 [some (.ref 9), none, none, none, none] [.int (iI 0)] (rM M r_122)
    refine r_istore1 (pc2 := 11) dX4_readAgain_10 rfl rfl ?_
    refine r_aload0 (pc2 := 12) dX4_readAgain_11 rfl ?_
    refine r_iconst (pc2 := 13) dX4_readAgain_12 rfl ?_
    refine r_bipush (pc2 := 15) dX4_readAgain_13 rfl (by decide) (by decide) ?_
    refine r_cv2 (pc2 := 18) dX4_readAgain_15 rfl vX4_111 (hK_9 hS) (by decide) (c_X4_readNumber (d := d + 2) (M := M) (r := r_122) (lo := 1) (hi := 12) hS hT hC o_r_122 ⟨by omega, by omega⟩ ⟨by omega, by omega⟩) ?_
    rintro _ M9 ⟨z_133, hz_z_133, rfl, h9, hv_z_133⟩
    obtain ⟨z_1331, z_1332⟩ := hz_z_133
    obtain ⟨r_134, e_r_134⟩ : ∃ x, x = rN T 1 12 r_122 := ⟨_, rfl⟩
    rw [← e_r_134] at h9
    rw [h9]
    have o_r_134 : rOk T r_134 := by rw [e_r_134]; exact o_r_122.N hT
    have i_r_134 := o_r_134.2
    show Go (Ct (d + 4)) _ yX4_readAgain cX4_readAgain none 0 0 18 [some (.ref 9), some (.int (iI 0)), none, none, none] [.int (iI z_133)] (rM M r_134)
    refine r_istore2 (pc2 := 19) dX4_readAgain_18 rfl rfl ?_
    refine r_aload0 (pc2 := 20) dX4_readAgain_19 rfl ?_
    refine r_bipush (pc2 := 22) dX4_readAgain_20 rfl (by decide) (by decide) ?_
    refine r_cv1 (pc2 := 25) dX4_readAgain_22 rfl vX4_115 (hK_9 hS) (by decide) (c_X4_readKind (d := d + 2) (M := M) (r := r_134) (k := 17) hS hT hC o_r_134 ⟨by omega, by omega⟩) ?_
    rintro _ M9 ⟨rfl, h9⟩
    obtain ⟨r_135, e_r_135⟩ : ∃ x, x = rK T 17 r_134 := ⟨_, rfl⟩
    rw [← e_r_135] at h9
    rw [h9]
    have o_r_135 : rOk T r_135 := by rw [e_r_135]; exact o_r_134.K hT
    have i_r_135 := o_r_135.2
    show Go (Ct (d + 4)) _ yX4_readAgain cX4_readAgain none 0 0 25 [some (.ref 9), some (.int (iI 0)), some (.int (iI z_133)), none, none] [] (rM M r_135)
    refine r_aload0 (pc2 := 26) dX4_readAgain_25 rfl ?_
    refine r_cv0 (pc2 := 29) dX4_readAgain_26 rfl vX4_125 (hK_9 hS) (by decide) (c_X4_readShift (d := d + 1) (M := M) (r := r_135) hS hT hC o_r_135) ?_
    rintro _ M9 ⟨z_136, hz_z_136, rfl, h9, hv_z_136⟩
    obtain ⟨z_1361, z_1362⟩ := hz_z_136
    obtain ⟨r_137, e_r_137⟩ : ∃ x, x = rS T r_135 := ⟨_, rfl⟩
    rw [← e_r_137] at h9
    rw [h9]
    have o_r_137 : rOk T r_137 := by rw [e_r_137]; exact o_r_135.S hT
    have i_r_137 := o_r_137.2
    show Go (Ct (d + 4)) _ yX4_readAgain cX4_readAgain none 0 0 29 [some (.ref 9), some (.int (iI 0)), some (.int (iI z_133)), none, none] [.int (iI z_136)] (rM M r_137)
    refine r_istore3 (pc2 := 30) dX4_readAgain_29 rfl rfl ?_
    refine r_aload0 (pc2 := 31) dX4_readAgain_30 rfl ?_
    refine r_cv0 (pc2 := 34) dX4_readAgain_31 rfl vX4_125 (hK_9 hS) (by decide) (c_X4_readShift (d := d + 1) (M := M) (r := r_137) hS hT hC o_r_137) ?_
    rintro _ M9 ⟨z_138, hz_z_138, rfl, h9, hv_z_138⟩
    obtain ⟨z_1381, z_1382⟩ := hz_z_138
    obtain ⟨r_139, e_r_139⟩ : ∃ x, x = rS T r_137 := ⟨_, rfl⟩
    rw [← e_r_139] at h9
    rw [h9]
    have o_r_139 : rOk T r_139 := by rw [e_r_139]; exact o_r_137.S hT
    have i_r_139 := o_r_139.2
    show Go (Ct (d + 4)) _ yX4_readAgain cX4_readAgain none 0 0 34 [some (.ref 9), some (.int (iI 0)), some (.int (iI z_133)), some (.int (iI z_136)), none] [.int (iI z_138)] (rM M r_139)
    refine r_istore4 (pc2 := 36) dX4_readAgain_34 rfl rfl ?_
    refine r_aload0 (pc2 := 37) dX4_readAgain_36 rfl ?_
    refine r_iload1 (pc2 := 38) dX4_readAgain_37 rfl ?_
    refine r_iload2 (pc2 := 39) dX4_readAgain_38 rfl ?_
    refine r_iload3 (pc2 := 40) dX4_readAgain_39 rfl ?_
    refine r_iload4 (pc2 := 42) dX4_readAgain_40 rfl ?_
    refine r_iconst (pc2 := 43) dX4_readAgain_42 rfl ?_
    refine r_cv5 (pc2 := 46) dX4_readAgain_43 rfl vX4_118 (hK_9 hS) (by decide) (c_X4_write (d := d + 3) (M := rM M r_139) (i := 0) (x := z_133) (y := z_136) (z := z_138) (w := 0) hS (by omega)) ?_
    rintro _ M9 ⟨rfl, h9⟩
    rw [rM_o (by omega), rM_o (by omega), rM_o (by omega), rM_o (by omega)] at h9
    obtain ⟨W140, h_W140⟩ : ∃ x, x = pI (pI (pI (pI M 12 0 z_133) 13 0 z_136) 14 0 z_138) 15 0 0 := ⟨_, rfl⟩
    rw [← h_W140] at h9
    rw [h9]
    have hS_W140 : sOk W140.1 := by rw [h_W140]; exact hS
    have hC_W140 : cT W140 T := by rw [h_W140]; exact hC
    show Go (Ct (d + 4)) _ yX4_readAgain cX4_readAgain none 0 0 46 [some (.ref 9), some (.int (iI 0)), some (.int (iI z_133)), some (.int (iI z_136)), some (.int (iI z_138))] [] (rM W140 r_139)
    refine r_aload0 (pc2 := 47) dX4_readAgain_46 rfl ?_
    refine r_iload1 (pc2 := 48) dX4_readAgain_47 rfl ?_
    refine r_cv1 (pc2 := 51) dX4_readAgain_48 rfl vX4_128 (hK_9 hS_W140) (by decide) (c_X4_readOpen (d := d + 1) (M := W140) (r := r_139) (G := G) (i := 0) hS_W140 hT hC_W140 o_r_139 (by rw [h_W140]; first | exact hG.2.2.1 | (rw [h1]; exact hG.2.2.1)) hg3 (fun q7 => by have q8 := rK_0 (k := 40) hT o_r_139 (by omega) q7; have f_r_139 := rS_0 hT o_r_137 (by rw [← e_r_139]; exact q8.1); have v_z_138 := hv_z_138 (by rw [← e_r_139]; exact q8.1); have f_r_137 := rS_0 hT o_r_135 (by rw [← e_r_137]; exact f_r_139.1); have v_z_136 := hv_z_136 (by rw [← e_r_137]; exact f_r_139.1); have f_r_135 := rK_0 (k := 17) hT o_r_134 (by omega) (by rw [← e_r_135]; exact f_r_137.1); have f_r_134 := rN_0 (lo := 1) (hi := 12) hT o_r_122 (by rw [← e_r_134]; exact f_r_135.1); have v_z_133 := hv_z_133 (by rw [← e_r_134]; exact f_r_135.1); have f_r_122 : r_121.2 = 0 := av_0 (by rw [← e_r_122]; exact f_r_134.1); have q6 := cNs_0 o_r (by rw [← e_r_121]; exact f_r_122); have := nst_le (G := G); omega)) ?_
    rintro _ M9 ⟨rfl, ⟨hf9, h9⟩ | ⟨hf9, h9⟩⟩
    · obtain ⟨r_141, e_r_141⟩ : ∃ x, x = rK T 40 r_139 := ⟨_, rfl⟩
      rw [← e_r_141] at h9 hf9
      obtain ⟨W142, h_W142⟩ : ∃ x, x = pI (pI W140 18 (gD G) 0) 9 13 (((gD G + 1 : Nat)) : Int) := ⟨_, rfl⟩
      rw [← h_W142] at h9
      rw [h9]
      have o_r_141 : rOk T r_141 := by rw [e_r_141]; exact o_r_139.K hT
      have i_r_141 := o_r_141.2
      show Go (Ct (d + 4)) _ yX4_readAgain cX4_readAgain none 0 0 51 [some (.ref 9), some (.int (iI 0)), some (.int (iI z_133)), some (.int (iI z_136)), some (.int (iI z_138))] [] (rM W142 r_141)
      refine r_ret dX4_readAgain_51 rfl ?_
      have hl : lAgain T r G = (r_141, gOpen (gLine G 11 ((kV T r_122.1 : Nat) : Int) (sV T r_135) (sV T r_137) 0) (gS G)) := by
        unfold lAgain
        dsimp only
        rw [← e_r_121, ← e_r_122, ← e_r_134, ← e_r_135, ← e_r_137, ← e_r_139, ← e_r_141]
      rw [hl]
      refine ⟨rfl, (by rw [h_W142, h_W140]; exact (fr.I (fr.I (fr.I (fr.I (fr.I (fr.I (fr.I (fr.I fr.rf (by decide)) (by decide)) (by decide)) (by decide)) (by decide)) (by decide)) (by decide)) (by decide))), rfl, fun q => ⟨rfl, ?_⟩⟩
      have f_r_141 := rK_0 (k := 40) hT o_r_139 (by omega) (by rw [← e_r_141]; exact q)
      have f_r_139 := rS_0 hT o_r_137 (by rw [← e_r_139]; exact f_r_141.1)
      have v_z_138 := hv_z_138 (by rw [← e_r_139]; exact f_r_141.1)
      have f_r_137 := rS_0 hT o_r_135 (by rw [← e_r_137]; exact f_r_139.1)
      have v_z_136 := hv_z_136 (by rw [← e_r_137]; exact f_r_139.1)
      have f_r_135 := rK_0 (k := 17) hT o_r_134 (by omega) (by rw [← e_r_135]; exact f_r_137.1)
      have f_r_134 := rN_0 (lo := 1) (hi := 12) hT o_r_122 (by rw [← e_r_134]; exact f_r_135.1)
      have v_z_133 := hv_z_133 (by rw [← e_r_134]; exact f_r_135.1)
      have f_r_122 : r_121.2 = 0 := av_0 (by rw [← e_r_122]; exact f_r_134.1)
      exact absurd (f_r_122) hf_r_122
    · obtain ⟨r_141, e_r_141⟩ : ∃ x, x = rK T 40 r_139 := ⟨_, rfl⟩
      rw [← e_r_141] at h9 hf9
      rw [h9]
      have o_r_141 : rOk T r_141 := by rw [e_r_141]; exact o_r_139.K hT
      have i_r_141 := o_r_141.2
      show Go (Ct (d + 4)) _ yX4_readAgain cX4_readAgain none 0 0 51 [some (.ref 9), some (.int (iI 0)), some (.int (iI z_133)), some (.int (iI z_136)), some (.int (iI z_138))] [] (rM W140 r_141)
      refine r_ret dX4_readAgain_51 rfl ?_
      have hl : lAgain T r G = (r_141, gOpen (gLine G 11 ((kV T r_122.1 : Nat) : Int) (sV T r_135) (sV T r_137) 0) (gS G)) := by
        unfold lAgain
        dsimp only
        rw [← e_r_121, ← e_r_122, ← e_r_134, ← e_r_135, ← e_r_137, ← e_r_139, ← e_r_141]
      rw [hl]
      refine ⟨rfl, (by rw [h_W140]; exact (fr.I (fr.I (fr.I (fr.I (fr.I (fr.I fr.rf (by decide)) (by decide)) (by decide)) (by decide)) (by decide)) (by decide))), rfl, fun q => ⟨rfl, ?_⟩⟩
      exact absurd q hf9
set_option maxHeartbeats 4000000 in
theorem c_X4_readMirror {d : Nat} {M : pM} {T : tD} {r : rdT} {G : gPr} (hS : sOk M.1) (hT : tOk T) (hC : cT M T) (o_r : rOk T r) (hr : r.2 = 0) (hG : CG M G) (hg : gOk G) (h125 : gS G < 125) : Ct (d + 5) 0 0 yX4_readMirror [.ref 9] (rM M r) (fun v M2 => v = none ∧ cPo M M2 (lMirror T r G)) := by
  refine ct_in (d := (d + 4)) kX4_readMirror rfl (by decide) (Nat.le_of_ble_eq_true rfl) (by decide) ?_
  show Go (Ct (d + 4)) _ yX4_readMirror cX4_readMirror none 0 0 0 [some (.ref 9), none, none] [] (rM M r)
  have hT1 := hT.1
  have i_r := o_r.2
  have hg1 := hg.1
  have hg2 := hg.2.1
  have hg3 := hg.2.2.1
  refine r_aload0 (pc2 := 1) dX4_readMirror_0 rfl ?_
  refine r_cv0 (pc2 := 4) dX4_readMirror_1 rfl vX4_122 (hK_9 hS) (by decide) (c_X4_checkNested (d := d + 2) (M := M) (r := r) (G := G) hS hT hC o_r hG hg) ?_
  rintro _ M9 ⟨rfl, h9⟩
  obtain ⟨r_143, e_r_143⟩ : ∃ x, x = cNs T r G := ⟨_, rfl⟩
  rw [← e_r_143] at h9
  rw [h9]
  have o_r_143 : rOk T r_143 := by rw [e_r_143]; exact rOk_cNs hT o_r
  have i_r_143 := o_r_143.2
  show Go (Ct (d + 4)) _ yX4_readMirror cX4_readMirror none 0 0 4 [some (.ref 9), none, none] [] (rM M r_143)
  refine r_aload0 (pc2 := 5) dX4_readMirror_4 rfl ?_
  refine r_bipush (pc2 := 7) dX4_readMirror_5 rfl (by decide) (by decide) ?_
  refine r_cv1 (pc2 := 10) dX4_readMirror_7 rfl vX4_100 (hK_9 hS) (by decide) (c_X4_bg (d := d + 2) (M := M) (r := r_143) (G := G) (a := 12) hS hT hC o_r_143 hG hg h125) ?_
  rintro _ M9 (⟨hf_r_144, rfl, h9⟩ | ⟨hf_r_144, rfl, h9⟩)
  · obtain ⟨r_144, e_r_144⟩ : ∃ x, x = av T r_143 := ⟨_, rfl⟩
    rw [← e_r_144] at h9
    obtain ⟨M1, h1⟩ : ∃ x, x = pI (pI (pI M 10 (gS G) 12) 11 (gS G) (((gS G + 1 : Nat)) : Int)) 9 11 (((gS G + 1 : Nat)) : Int) := ⟨_, rfl⟩
    rw [← h1] at h9
    rw [h9]
    have o_r_144 : rOk T r_144 := by rw [e_r_144]; exact o_r_143.a
    have i_r_144 := o_r_144.2
    have hS_M1 : sOk M1.1 := by rw [h1]; exact hS
    have hC_M1 : cT M1 T := by rw [h1]; exact hC
    show Go (Ct (d + 4)) _ yX4_readMirror cX4_readMirror none 0 0 10 [some (.ref 9), none, none] [.int (iI ((gS G : Nat) : Int))] (rM M1 r_144)
    refine r_istore1 (pc2 := 11) dX4_readMirror_10 rfl rfl ?_
    refine r_aload0 (pc2 := 12) dX4_readMirror_11 rfl ?_
    refine r_iconst (pc2 := 13) dX4_readMirror_12 rfl ?_
    refine r_bipush (pc2 := 15) dX4_readMirror_13 rfl (by decide) (by decide) ?_
    refine r_cv2 (pc2 := 18) dX4_readMirror_15 rfl vX4_111 (hK_9 hS_M1) (by decide) (c_X4_readNumber (d := d + 2) (M := M1) (r := r_144) (lo := 0) (hi := 12) hS_M1 hT hC_M1 o_r_144 ⟨by omega, by omega⟩ ⟨by omega, by omega⟩) ?_
    rintro _ M9 ⟨z_145, hz_z_145, rfl, h9, hv_z_145⟩
    obtain ⟨z_1451, z_1452⟩ := hz_z_145
    obtain ⟨r_146, e_r_146⟩ : ∃ x, x = rN T 0 12 r_144 := ⟨_, rfl⟩
    rw [← e_r_146] at h9
    rw [h9]
    have o_r_146 : rOk T r_146 := by rw [e_r_146]; exact o_r_144.N hT
    have i_r_146 := o_r_146.2
    show Go (Ct (d + 4)) _ yX4_readMirror cX4_readMirror none 0 0 18 [some (.ref 9), some (.int (iI ((gS G : Nat) : Int))), none] [.int (iI z_145)] (rM M1 r_146)
    refine r_istore2 (pc2 := 19) dX4_readMirror_18 rfl rfl ?_
    refine r_aload0 (pc2 := 20) dX4_readMirror_19 rfl ?_
    refine r_iload1 (pc2 := 21) dX4_readMirror_20 rfl ?_
    refine r_iload2 (pc2 := 22) dX4_readMirror_21 rfl ?_
    refine r_iconst (pc2 := 23) dX4_readMirror_22 rfl ?_
    refine r_iconst (pc2 := 24) dX4_readMirror_23 rfl ?_
    refine r_iconst (pc2 := 25) dX4_readMirror_24 rfl ?_
    refine r_cv5 (pc2 := 28) dX4_readMirror_25 rfl vX4_118 (hK_9 hS_M1) (by decide) (c_X4_write (d := d + 3) (M := rM M1 r_146) (i := (gS G)) (x := z_145) (y := 0) (z := 0) (w := 0) hS_M1 (by omega)) ?_
    rintro _ M9 ⟨rfl, h9⟩
    rw [rM_o (by omega), rM_o (by omega), rM_o (by omega), rM_o (by omega)] at h9
    obtain ⟨W147, h_W147⟩ : ∃ x, x = pI (pI (pI (pI M1 12 (gS G) z_145) 13 (gS G) 0) 14 (gS G) 0) 15 (gS G) 0 := ⟨_, rfl⟩
    rw [← h_W147] at h9
    rw [h9]
    have hS_W147 : sOk W147.1 := by rw [h_W147]; exact hS_M1
    have hC_W147 : cT W147 T := by rw [h_W147]; exact hC_M1
    show Go (Ct (d + 4)) _ yX4_readMirror cX4_readMirror none 0 0 28 [some (.ref 9), some (.int (iI ((gS G : Nat) : Int))), some (.int (iI z_145))] [] (rM W147 r_146)
    refine r_aload0 (pc2 := 29) dX4_readMirror_28 rfl ?_
    refine r_iload1 (pc2 := 30) dX4_readMirror_29 rfl ?_
    refine r_cv1 (pc2 := 33) dX4_readMirror_30 rfl vX4_128 (hK_9 hS_W147) (by decide) (c_X4_readOpen (d := d + 1) (M := W147) (r := r_146) (G := G) (i := ((gS G : Nat) : Int)) hS_W147 hT hC_W147 o_r_146 (by rw [h_W147]; first | exact hG.2.2.1 | (rw [h1]; exact hG.2.2.1)) hg3 (fun q7 => by have q8 := rK_0 (k := 40) hT o_r_146 (by omega) q7; have f_r_146 := rN_0 (lo := 0) (hi := 12) hT o_r_144 (by rw [← e_r_146]; exact q8.1); have v_z_145 := hv_z_145 (by rw [← e_r_146]; exact q8.1); have f_r_144 : r_143.2 = 0 := av_0 (by rw [← e_r_144]; exact f_r_146.1); have q6 := cNs_0 o_r (by rw [← e_r_143]; exact f_r_144); have := nst_le (G := G); omega)) ?_
    rintro _ M9 ⟨rfl, ⟨hf9, h9⟩ | ⟨hf9, h9⟩⟩
    · obtain ⟨r_148, e_r_148⟩ : ∃ x, x = rK T 40 r_146 := ⟨_, rfl⟩
      rw [← e_r_148] at h9 hf9
      obtain ⟨W149, h_W149⟩ : ∃ x, x = pI (pI W147 18 (gD G) ((gS G : Nat) : Int)) 9 13 (((gD G + 1 : Nat)) : Int) := ⟨_, rfl⟩
      rw [← h_W149] at h9
      rw [h9]
      have o_r_148 : rOk T r_148 := by rw [e_r_148]; exact o_r_146.K hT
      have i_r_148 := o_r_148.2
      show Go (Ct (d + 4)) _ yX4_readMirror cX4_readMirror none 0 0 33 [some (.ref 9), some (.int (iI ((gS G : Nat) : Int))), some (.int (iI z_145))] [] (rM W149 r_148)
      refine r_ret dX4_readMirror_33 rfl ?_
      have hl : lMirror T r G = (r_148, gOpen (gLine G 12 ((kV T r_144.1 : Nat) : Int) 0 0 0) (gS G)) := by
        unfold lMirror
        dsimp only
        rw [← e_r_143, ← e_r_144, ← e_r_146, ← e_r_148]
      rw [hl]
      refine ⟨rfl, (by rw [h_W149, h_W147, h1]; exact (fr.I (fr.I (fr.I (fr.I (fr.I (fr.I (fr.I (fr.I (fr.I (fr.I (fr.I fr.rf (by decide)) (by decide)) (by decide)) (by decide)) (by decide)) (by decide)) (by decide)) (by decide)) (by decide)) (by decide)) (by decide))), rfl, fun q => ⟨rfl, ?_⟩⟩
      have f_r_148 := rK_0 (k := 40) hT o_r_146 (by omega) (by rw [← e_r_148]; exact q)
      have f_r_146 := rN_0 (lo := 0) (hi := 12) hT o_r_144 (by rw [← e_r_146]; exact f_r_148.1)
      have v_z_145 := hv_z_145 (by rw [← e_r_146]; exact f_r_148.1)
      have f_r_144 : r_143.2 = 0 := av_0 (by rw [← e_r_144]; exact f_r_146.1)
      rw [h_W149, h_W147, h1, v_z_145]
      exact (CG.opn (CG.line hG hg) (fun _ => by show ¬ va_up (gA G) (gS G) 12 (gS G) = 13; rw [up_at]; decide)).r
    · obtain ⟨r_148, e_r_148⟩ : ∃ x, x = rK T 40 r_146 := ⟨_, rfl⟩
      rw [← e_r_148] at h9 hf9
      rw [h9]
      have o_r_148 : rOk T r_148 := by rw [e_r_148]; exact o_r_146.K hT
      have i_r_148 := o_r_148.2
      show Go (Ct (d + 4)) _ yX4_readMirror cX4_readMirror none 0 0 33 [some (.ref 9), some (.int (iI ((gS G : Nat) : Int))), some (.int (iI z_145))] [] (rM W147 r_148)
      refine r_ret dX4_readMirror_33 rfl ?_
      have hl : lMirror T r G = (r_148, gOpen (gLine G 12 ((kV T r_144.1 : Nat) : Int) 0 0 0) (gS G)) := by
        unfold lMirror
        dsimp only
        rw [← e_r_143, ← e_r_144, ← e_r_146, ← e_r_148]
      rw [hl]
      refine ⟨rfl, (by rw [h_W147, h1]; exact (fr.I (fr.I (fr.I (fr.I (fr.I (fr.I (fr.I (fr.I (fr.I fr.rf (by decide)) (by decide)) (by decide)) (by decide)) (by decide)) (by decide)) (by decide)) (by decide)) (by decide))), rfl, fun q => ⟨rfl, ?_⟩⟩
      exact absurd q hf9
  · obtain ⟨r_144, e_r_144⟩ : ∃ x, x = av T r_143 := ⟨_, rfl⟩
    rw [← e_r_144] at h9
    rw [h9]
    have o_r_144 : rOk T r_144 := by rw [e_r_144]; exact o_r_143.a
    have i_r_144 := o_r_144.2
    show Go (Ct (d + 4)) _ yX4_readMirror cX4_readMirror none 0 0 10 [some (.ref 9), none, none] [.int (iI 0)] (rM M r_144)
    refine r_istore1 (pc2 := 11) dX4_readMirror_10 rfl rfl ?_
    refine r_aload0 (pc2 := 12) dX4_readMirror_11 rfl ?_
    refine r_iconst (pc2 := 13) dX4_readMirror_12 rfl ?_
    refine r_bipush (pc2 := 15) dX4_readMirror_13 rfl (by decide) (by decide) ?_
    refine r_cv2 (pc2 := 18) dX4_readMirror_15 rfl vX4_111 (hK_9 hS) (by decide) (c_X4_readNumber (d := d + 2) (M := M) (r := r_144) (lo := 0) (hi := 12) hS hT hC o_r_144 ⟨by omega, by omega⟩ ⟨by omega, by omega⟩) ?_
    rintro _ M9 ⟨z_150, hz_z_150, rfl, h9, hv_z_150⟩
    obtain ⟨z_1501, z_1502⟩ := hz_z_150
    obtain ⟨r_151, e_r_151⟩ : ∃ x, x = rN T 0 12 r_144 := ⟨_, rfl⟩
    rw [← e_r_151] at h9
    rw [h9]
    have o_r_151 : rOk T r_151 := by rw [e_r_151]; exact o_r_144.N hT
    have i_r_151 := o_r_151.2
    show Go (Ct (d + 4)) _ yX4_readMirror cX4_readMirror none 0 0 18 [some (.ref 9), some (.int (iI 0)), none] [.int (iI z_150)] (rM M r_151)
    refine r_istore2 (pc2 := 19) dX4_readMirror_18 rfl rfl ?_
    refine r_aload0 (pc2 := 20) dX4_readMirror_19 rfl ?_
    refine r_iload1 (pc2 := 21) dX4_readMirror_20 rfl ?_
    refine r_iload2 (pc2 := 22) dX4_readMirror_21 rfl ?_
    refine r_iconst (pc2 := 23) dX4_readMirror_22 rfl ?_
    refine r_iconst (pc2 := 24) dX4_readMirror_23 rfl ?_
    refine r_iconst (pc2 := 25) dX4_readMirror_24 rfl ?_
    refine r_cv5 (pc2 := 28) dX4_readMirror_25 rfl vX4_118 (hK_9 hS) (by decide) (c_X4_write (d := d + 3) (M := rM M r_151) (i := 0) (x := z_150) (y := 0) (z := 0) (w := 0) hS (by omega)) ?_
    rintro _ M9 ⟨rfl, h9⟩
    rw [rM_o (by omega), rM_o (by omega), rM_o (by omega), rM_o (by omega)] at h9
    obtain ⟨W152, h_W152⟩ : ∃ x, x = pI (pI (pI (pI M 12 0 z_150) 13 0 0) 14 0 0) 15 0 0 := ⟨_, rfl⟩
    rw [← h_W152] at h9
    rw [h9]
    have hS_W152 : sOk W152.1 := by rw [h_W152]; exact hS
    have hC_W152 : cT W152 T := by rw [h_W152]; exact hC
    show Go (Ct (d + 4)) _ yX4_readMirror cX4_readMirror none 0 0 28 [some (.ref 9), some (.int (iI 0)), some (.int (iI z_150))] [] (rM W152 r_151)
    refine r_aload0 (pc2 := 29) dX4_readMirror_28 rfl ?_
    refine r_iload1 (pc2 := 30) dX4_readMirror_29 rfl ?_
    refine r_cv1 (pc2 := 33) dX4_readMirror_30 rfl vX4_128 (hK_9 hS_W152) (by decide) (c_X4_readOpen (d := d + 1) (M := W152) (r := r_151) (G := G) (i := 0) hS_W152 hT hC_W152 o_r_151 (by rw [h_W152]; first | exact hG.2.2.1 | (rw [h1]; exact hG.2.2.1)) hg3 (fun q7 => by have q8 := rK_0 (k := 40) hT o_r_151 (by omega) q7; have f_r_151 := rN_0 (lo := 0) (hi := 12) hT o_r_144 (by rw [← e_r_151]; exact q8.1); have v_z_150 := hv_z_150 (by rw [← e_r_151]; exact q8.1); have f_r_144 : r_143.2 = 0 := av_0 (by rw [← e_r_144]; exact f_r_151.1); have q6 := cNs_0 o_r (by rw [← e_r_143]; exact f_r_144); have := nst_le (G := G); omega)) ?_
    rintro _ M9 ⟨rfl, ⟨hf9, h9⟩ | ⟨hf9, h9⟩⟩
    · obtain ⟨r_153, e_r_153⟩ : ∃ x, x = rK T 40 r_151 := ⟨_, rfl⟩
      rw [← e_r_153] at h9 hf9
      obtain ⟨W154, h_W154⟩ : ∃ x, x = pI (pI W152 18 (gD G) 0) 9 13 (((gD G + 1 : Nat)) : Int) := ⟨_, rfl⟩
      rw [← h_W154] at h9
      rw [h9]
      have o_r_153 : rOk T r_153 := by rw [e_r_153]; exact o_r_151.K hT
      have i_r_153 := o_r_153.2
      show Go (Ct (d + 4)) _ yX4_readMirror cX4_readMirror none 0 0 33 [some (.ref 9), some (.int (iI 0)), some (.int (iI z_150))] [] (rM W154 r_153)
      refine r_ret dX4_readMirror_33 rfl ?_
      have hl : lMirror T r G = (r_153, gOpen (gLine G 12 ((kV T r_144.1 : Nat) : Int) 0 0 0) (gS G)) := by
        unfold lMirror
        dsimp only
        rw [← e_r_143, ← e_r_144, ← e_r_151, ← e_r_153]
      rw [hl]
      refine ⟨rfl, (by rw [h_W154, h_W152]; exact (fr.I (fr.I (fr.I (fr.I (fr.I (fr.I (fr.I (fr.I fr.rf (by decide)) (by decide)) (by decide)) (by decide)) (by decide)) (by decide)) (by decide)) (by decide))), rfl, fun q => ⟨rfl, ?_⟩⟩
      have f_r_153 := rK_0 (k := 40) hT o_r_151 (by omega) (by rw [← e_r_153]; exact q)
      have f_r_151 := rN_0 (lo := 0) (hi := 12) hT o_r_144 (by rw [← e_r_151]; exact f_r_153.1)
      have v_z_150 := hv_z_150 (by rw [← e_r_151]; exact f_r_153.1)
      have f_r_144 : r_143.2 = 0 := av_0 (by rw [← e_r_144]; exact f_r_151.1)
      exact absurd (f_r_144) hf_r_144
    · obtain ⟨r_153, e_r_153⟩ : ∃ x, x = rK T 40 r_151 := ⟨_, rfl⟩
      rw [← e_r_153] at h9 hf9
      rw [h9]
      have o_r_153 : rOk T r_153 := by rw [e_r_153]; exact o_r_151.K hT
      have i_r_153 := o_r_153.2
      show Go (Ct (d + 4)) _ yX4_readMirror cX4_readMirror none 0 0 33 [some (.ref 9), some (.int (iI 0)), some (.int (iI z_150))] [] (rM W152 r_153)
      refine r_ret dX4_readMirror_33 rfl ?_
      have hl : lMirror T r G = (r_153, gOpen (gLine G 12 ((kV T r_144.1 : Nat) : Int) 0 0 0) (gS G)) := by
        unfold lMirror
        dsimp only
        rw [← e_r_143, ← e_r_144, ← e_r_151, ← e_r_153]
      rw [hl]
      refine ⟨rfl, (by rw [h_W152]; exact (fr.I (fr.I (fr.I (fr.I (fr.I (fr.I fr.rf (by decide)) (by decide)) (by decide)) (by decide)) (by decide)) (by decide))), rfl, fun q => ⟨rfl, ?_⟩⟩
      exact absurd q hf9
set_option maxHeartbeats 4000000 in
theorem c_X4_readHopper {d : Nat} {M : pM} {T : tD} {r : rdT} {G : gPr} (hS : sOk M.1) (hT : tOk T) (hC : cT M T) (o_r : rOk T r) (hr : r.2 = 0) (hG : CG M G) (hg : gOk G) (h125 : gS G < 125) : Ct (d + 4) 0 0 yX4_readHopper [.ref 9] (rM M r) (fun v M2 => v = none ∧ cPo M M2 (lHopper T r G)) := by
  refine ct_in (d := (d + 3)) kX4_readHopper rfl (by decide) (Nat.le_of_ble_eq_true rfl) (by decide) ?_
  show Go (Ct (d + 3)) _ yX4_readHopper cX4_readHopper none 0 0 0 [some (.ref 9), none, none, none, none, none] [] (rM M r)
  have hT1 := hT.1
  have i_r := o_r.2
  have hg1 := hg.1
  have hg2 := hg.2.1
  have hg3 := hg.2.2.1
  refine r_aload0 (pc2 := 1) dX4_readHopper_0 rfl ?_
  refine r_cv0 (pc2 := 4) dX4_readHopper_1 rfl vX4_131 (hK_9 hS) (by decide) (c_X4_checkOutside (d := d + 1) (M := M) (r := r) (G := G) hS hT hC o_r hG hg) ?_
  rintro _ M9 ⟨rfl, h9⟩
  obtain ⟨r_155, e_r_155⟩ : ∃ x, x = cOu T r G := ⟨_, rfl⟩
  rw [← e_r_155] at h9
  rw [h9]
  have o_r_155 : rOk T r_155 := by rw [e_r_155]; exact rOk_cOu hT o_r
  have i_r_155 := o_r_155.2
  show Go (Ct (d + 3)) _ yX4_readHopper cX4_readHopper none 0 0 4 [some (.ref 9), none, none, none, none, none] [] (rM M r_155)
  refine r_aload0 (pc2 := 5) dX4_readHopper_4 rfl ?_
  refine r_bipush (pc2 := 7) dX4_readHopper_5 rfl (by decide) (by decide) ?_
  refine r_cv1 (pc2 := 10) dX4_readHopper_7 rfl vX4_100 (hK_9 hS) (by decide) (c_X4_bg (d := d + 1) (M := M) (r := r_155) (G := G) (a := 16) hS hT hC o_r_155 hG hg h125) ?_
  rintro _ M9 (⟨hf_r_156, rfl, h9⟩ | ⟨hf_r_156, rfl, h9⟩)
  · obtain ⟨r_156, e_r_156⟩ : ∃ x, x = av T r_155 := ⟨_, rfl⟩
    rw [← e_r_156] at h9
    obtain ⟨M1, h1⟩ : ∃ x, x = pI (pI (pI M 10 (gS G) 16) 11 (gS G) (((gS G + 1 : Nat)) : Int)) 9 11 (((gS G + 1 : Nat)) : Int) := ⟨_, rfl⟩
    rw [← h1] at h9
    rw [h9]
    have o_r_156 : rOk T r_156 := by rw [e_r_156]; exact o_r_155.a
    have i_r_156 := o_r_156.2
    have hS_M1 : sOk M1.1 := by rw [h1]; exact hS
    have hC_M1 : cT M1 T := by rw [h1]; exact hC
    show Go (Ct (d + 3)) _ yX4_readHopper cX4_readHopper none 0 0 10 [some (.ref 9), none, none, none, none, none] [.int (iI ((gS G : Nat) : Int))] (rM M1 r_156)
    refine r_istore1 (pc2 := 11) dX4_readHopper_10 rfl rfl ?_
    refine r_aload0 (pc2 := 12) dX4_readHopper_11 rfl ?_
    refine r_iconst (pc2 := 13) dX4_readHopper_12 rfl ?_
    refine r_iconst (pc2 := 14) dX4_readHopper_13 rfl ?_
    refine r_cv2 (pc2 := 17) dX4_readHopper_14 rfl vX4_111 (hK_9 hS_M1) (by decide) (c_X4_readNumber (d := d + 1) (M := M1) (r := r_156) (lo := 0) (hi := 3) hS_M1 hT hC_M1 o_r_156 ⟨by omega, by omega⟩ ⟨by omega, by omega⟩) ?_
    rintro _ M9 ⟨z_157, hz_z_157, rfl, h9, hv_z_157⟩
    obtain ⟨z_1571, z_1572⟩ := hz_z_157
    obtain ⟨r_158, e_r_158⟩ : ∃ x, x = rN T 0 3 r_156 := ⟨_, rfl⟩
    rw [← e_r_158] at h9
    rw [h9]
    have o_r_158 : rOk T r_158 := by rw [e_r_158]; exact o_r_156.N hT
    have i_r_158 := o_r_158.2
    show Go (Ct (d + 3)) _ yX4_readHopper cX4_readHopper none 0 0 17 [some (.ref 9), some (.int (iI ((gS G : Nat) : Int))), none, none, none, none] [.int (iI z_157)] (rM M1 r_158)
    refine r_istore2 (pc2 := 18) dX4_readHopper_17 rfl rfl ?_
    refine r_aload0 (pc2 := 19) dX4_readHopper_18 rfl ?_
    refine r_iconst (pc2 := 20) dX4_readHopper_19 rfl ?_
    refine r_bipush (pc2 := 22) dX4_readHopper_20 rfl (by decide) (by decide) ?_
    refine r_cv2 (pc2 := 25) dX4_readHopper_22 rfl vX4_111 (hK_9 hS_M1) (by decide) (c_X4_readNumber (d := d + 1) (M := M1) (r := r_158) (lo := 0) (hi := 12) hS_M1 hT hC_M1 o_r_158 ⟨by omega, by omega⟩ ⟨by omega, by omega⟩) ?_
    rintro _ M9 ⟨z_159, hz_z_159, rfl, h9, hv_z_159⟩
    obtain ⟨z_1591, z_1592⟩ := hz_z_159
    obtain ⟨r_160, e_r_160⟩ : ∃ x, x = rN T 0 12 r_158 := ⟨_, rfl⟩
    rw [← e_r_160] at h9
    rw [h9]
    have o_r_160 : rOk T r_160 := by rw [e_r_160]; exact o_r_158.N hT
    have i_r_160 := o_r_160.2
    show Go (Ct (d + 3)) _ yX4_readHopper cX4_readHopper none 0 0 25 [some (.ref 9), some (.int (iI ((gS G : Nat) : Int))), some (.int (iI z_157)), none, none, none] [.int (iI z_159)] (rM M1 r_160)
    refine r_istore3 (pc2 := 26) dX4_readHopper_25 rfl rfl ?_
    refine r_aload0 (pc2 := 27) dX4_readHopper_26 rfl ?_
    refine r_iconst (pc2 := 28) dX4_readHopper_27 rfl ?_
    refine r_iconst (pc2 := 29) dX4_readHopper_28 rfl ?_
    refine r_cv2 (pc2 := 32) dX4_readHopper_29 rfl vX4_111 (hK_9 hS_M1) (by decide) (c_X4_readNumber (d := d + 1) (M := M1) (r := r_160) (lo := 0) (hi := 3) hS_M1 hT hC_M1 o_r_160 ⟨by omega, by omega⟩ ⟨by omega, by omega⟩) ?_
    rintro _ M9 ⟨z_161, hz_z_161, rfl, h9, hv_z_161⟩
    obtain ⟨z_1611, z_1612⟩ := hz_z_161
    obtain ⟨r_162, e_r_162⟩ : ∃ x, x = rN T 0 3 r_160 := ⟨_, rfl⟩
    rw [← e_r_162] at h9
    rw [h9]
    have o_r_162 : rOk T r_162 := by rw [e_r_162]; exact o_r_160.N hT
    have i_r_162 := o_r_162.2
    show Go (Ct (d + 3)) _ yX4_readHopper cX4_readHopper none 0 0 32 [some (.ref 9), some (.int (iI ((gS G : Nat) : Int))), some (.int (iI z_157)), some (.int (iI z_159)), none, none] [.int (iI z_161)] (rM M1 r_162)
    refine r_istore4 (pc2 := 34) dX4_readHopper_32 rfl rfl ?_
    refine r_aload0 (pc2 := 35) dX4_readHopper_34 rfl ?_
    refine r_iconst (pc2 := 36) dX4_readHopper_35 rfl ?_
    refine r_sipush (pc2 := 39) dX4_readHopper_36 rfl (by decide) (by decide) ?_
    refine r_cv2 (pc2 := 42) dX4_readHopper_39 rfl vX4_111 (hK_9 hS_M1) (by decide) (c_X4_readNumber (d := d + 1) (M := M1) (r := r_162) (lo := 0) (hi := 999) hS_M1 hT hC_M1 o_r_162 ⟨by omega, by omega⟩ ⟨by omega, by omega⟩) ?_
    rintro _ M9 ⟨z_163, hz_z_163, rfl, h9, hv_z_163⟩
    obtain ⟨z_1631, z_1632⟩ := hz_z_163
    obtain ⟨r_164, e_r_164⟩ : ∃ x, x = rN T 0 999 r_162 := ⟨_, rfl⟩
    rw [← e_r_164] at h9
    rw [h9]
    have o_r_164 : rOk T r_164 := by rw [e_r_164]; exact o_r_162.N hT
    have i_r_164 := o_r_164.2
    show Go (Ct (d + 3)) _ yX4_readHopper cX4_readHopper none 0 0 42 [some (.ref 9), some (.int (iI ((gS G : Nat) : Int))), some (.int (iI z_157)), some (.int (iI z_159)), some (.int (iI z_161)), none] [.int (iI z_163)] (rM M1 r_164)
    refine r_istore5 (pc2 := 44) dX4_readHopper_42 rfl rfl ?_
    refine r_aload0 (pc2 := 45) dX4_readHopper_44 rfl ?_
    refine r_bipush (pc2 := 47) dX4_readHopper_45 rfl (by decide) (by decide) ?_
    refine r_cv1 (pc2 := 50) dX4_readHopper_47 rfl vX4_115 (hK_9 hS_M1) (by decide) (c_X4_readKind (d := d + 1) (M := M1) (r := r_164) (k := 59) hS_M1 hT hC_M1 o_r_164 ⟨by omega, by omega⟩) ?_
    rintro _ M9 ⟨rfl, h9⟩
    obtain ⟨r_165, e_r_165⟩ : ∃ x, x = rK T 59 r_164 := ⟨_, rfl⟩
    rw [← e_r_165] at h9
    rw [h9]
    have o_r_165 : rOk T r_165 := by rw [e_r_165]; exact o_r_164.K hT
    have i_r_165 := o_r_165.2
    show Go (Ct (d + 3)) _ yX4_readHopper cX4_readHopper none 0 0 50 [some (.ref 9), some (.int (iI ((gS G : Nat) : Int))), some (.int (iI z_157)), some (.int (iI z_159)), some (.int (iI z_161)), some (.int (iI z_163))] [] (rM M1 r_165)
    refine r_aload0 (pc2 := 51) dX4_readHopper_50 rfl ?_
    refine r_iload1 (pc2 := 52) dX4_readHopper_51 rfl ?_
    refine r_iload2 (pc2 := 53) dX4_readHopper_52 rfl ?_
    refine r_iload3 (pc2 := 54) dX4_readHopper_53 rfl ?_
    refine r_iload4 (pc2 := 56) dX4_readHopper_54 rfl ?_
    refine r_iload5 (pc2 := 58) dX4_readHopper_56 rfl ?_
    refine r_cv5 (pc2 := 61) dX4_readHopper_58 rfl vX4_118 (hK_9 hS_M1) (by decide) (c_X4_write (d := d + 2) (M := rM M1 r_165) (i := (gS G)) (x := z_157) (y := z_159) (z := z_161) (w := z_163) hS_M1 (by omega)) ?_
    rintro _ M9 ⟨rfl, h9⟩
    rw [rM_o (by omega), rM_o (by omega), rM_o (by omega), rM_o (by omega)] at h9
    obtain ⟨W166, h_W166⟩ : ∃ x, x = pI (pI (pI (pI M1 12 (gS G) z_157) 13 (gS G) z_159) 14 (gS G) z_161) 15 (gS G) z_163 := ⟨_, rfl⟩
    rw [← h_W166] at h9
    rw [h9]
    have hS_W166 : sOk W166.1 := by rw [h_W166]; exact hS_M1
    have hC_W166 : cT W166 T := by rw [h_W166]; exact hC_M1
    show Go (Ct (d + 3)) _ yX4_readHopper cX4_readHopper none 0 0 61 [some (.ref 9), some (.int (iI ((gS G : Nat) : Int))), some (.int (iI z_157)), some (.int (iI z_159)), some (.int (iI z_161)), some (.int (iI z_163))] [] (rM W166 r_165)
    refine r_ret dX4_readHopper_61 rfl ?_
    have hl : lHopper T r G = (r_165, gLine G 16 ((kV T r_156.1 : Nat) : Int) ((kV T r_158.1 : Nat) : Int) ((kV T r_160.1 : Nat) : Int) ((kV T r_162.1 : Nat) : Int)) := by
      unfold lHopper
      dsimp only
      rw [← e_r_155, ← e_r_156, ← e_r_158, ← e_r_160, ← e_r_162, ← e_r_164, ← e_r_165]
    rw [hl]
    refine ⟨rfl, (by rw [h_W166, h1]; exact (fr.I (fr.I (fr.I (fr.I (fr.I (fr.I (fr.I (fr.I (fr.I fr.rf (by decide)) (by decide)) (by decide)) (by decide)) (by decide)) (by decide)) (by decide)) (by decide)) (by decide))), rfl, fun q => ⟨rfl, ?_⟩⟩
    have f_r_165 := rK_0 (k := 59) hT o_r_164 (by omega) (by rw [← e_r_165]; exact q)
    have f_r_164 := rN_0 (lo := 0) (hi := 999) hT o_r_162 (by rw [← e_r_164]; exact f_r_165.1)
    have v_z_163 := hv_z_163 (by rw [← e_r_164]; exact f_r_165.1)
    have f_r_162 := rN_0 (lo := 0) (hi := 3) hT o_r_160 (by rw [← e_r_162]; exact f_r_164.1)
    have v_z_161 := hv_z_161 (by rw [← e_r_162]; exact f_r_164.1)
    have f_r_160 := rN_0 (lo := 0) (hi := 12) hT o_r_158 (by rw [← e_r_160]; exact f_r_162.1)
    have v_z_159 := hv_z_159 (by rw [← e_r_160]; exact f_r_162.1)
    have f_r_158 := rN_0 (lo := 0) (hi := 3) hT o_r_156 (by rw [← e_r_158]; exact f_r_160.1)
    have v_z_157 := hv_z_157 (by rw [← e_r_158]; exact f_r_160.1)
    have f_r_156 : r_155.2 = 0 := av_0 (by rw [← e_r_156]; exact f_r_158.1)
    rw [h_W166, h1, v_z_157, v_z_159, v_z_161, v_z_163]
    exact (CG.line hG hg).r
  · obtain ⟨r_156, e_r_156⟩ : ∃ x, x = av T r_155 := ⟨_, rfl⟩
    rw [← e_r_156] at h9
    rw [h9]
    have o_r_156 : rOk T r_156 := by rw [e_r_156]; exact o_r_155.a
    have i_r_156 := o_r_156.2
    show Go (Ct (d + 3)) _ yX4_readHopper cX4_readHopper none 0 0 10 [some (.ref 9), none, none, none, none, none] [.int (iI 0)] (rM M r_156)
    refine r_istore1 (pc2 := 11) dX4_readHopper_10 rfl rfl ?_
    refine r_aload0 (pc2 := 12) dX4_readHopper_11 rfl ?_
    refine r_iconst (pc2 := 13) dX4_readHopper_12 rfl ?_
    refine r_iconst (pc2 := 14) dX4_readHopper_13 rfl ?_
    refine r_cv2 (pc2 := 17) dX4_readHopper_14 rfl vX4_111 (hK_9 hS) (by decide) (c_X4_readNumber (d := d + 1) (M := M) (r := r_156) (lo := 0) (hi := 3) hS hT hC o_r_156 ⟨by omega, by omega⟩ ⟨by omega, by omega⟩) ?_
    rintro _ M9 ⟨z_167, hz_z_167, rfl, h9, hv_z_167⟩
    obtain ⟨z_1671, z_1672⟩ := hz_z_167
    obtain ⟨r_168, e_r_168⟩ : ∃ x, x = rN T 0 3 r_156 := ⟨_, rfl⟩
    rw [← e_r_168] at h9
    rw [h9]
    have o_r_168 : rOk T r_168 := by rw [e_r_168]; exact o_r_156.N hT
    have i_r_168 := o_r_168.2
    show Go (Ct (d + 3)) _ yX4_readHopper cX4_readHopper none 0 0 17 [some (.ref 9), some (.int (iI 0)), none, none, none, none] [.int (iI z_167)] (rM M r_168)
    refine r_istore2 (pc2 := 18) dX4_readHopper_17 rfl rfl ?_
    refine r_aload0 (pc2 := 19) dX4_readHopper_18 rfl ?_
    refine r_iconst (pc2 := 20) dX4_readHopper_19 rfl ?_
    refine r_bipush (pc2 := 22) dX4_readHopper_20 rfl (by decide) (by decide) ?_
    refine r_cv2 (pc2 := 25) dX4_readHopper_22 rfl vX4_111 (hK_9 hS) (by decide) (c_X4_readNumber (d := d + 1) (M := M) (r := r_168) (lo := 0) (hi := 12) hS hT hC o_r_168 ⟨by omega, by omega⟩ ⟨by omega, by omega⟩) ?_
    rintro _ M9 ⟨z_169, hz_z_169, rfl, h9, hv_z_169⟩
    obtain ⟨z_1691, z_1692⟩ := hz_z_169
    obtain ⟨r_170, e_r_170⟩ : ∃ x, x = rN T 0 12 r_168 := ⟨_, rfl⟩
    rw [← e_r_170] at h9
    rw [h9]
    have o_r_170 : rOk T r_170 := by rw [e_r_170]; exact o_r_168.N hT
    have i_r_170 := o_r_170.2
    show Go (Ct (d + 3)) _ yX4_readHopper cX4_readHopper none 0 0 25 [some (.ref 9), some (.int (iI 0)), some (.int (iI z_167)), none, none, none] [.int (iI z_169)] (rM M r_170)
    refine r_istore3 (pc2 := 26) dX4_readHopper_25 rfl rfl ?_
    refine r_aload0 (pc2 := 27) dX4_readHopper_26 rfl ?_
    refine r_iconst (pc2 := 28) dX4_readHopper_27 rfl ?_
    refine r_iconst (pc2 := 29) dX4_readHopper_28 rfl ?_
    refine r_cv2 (pc2 := 32) dX4_readHopper_29 rfl vX4_111 (hK_9 hS) (by decide) (c_X4_readNumber (d := d + 1) (M := M) (r := r_170) (lo := 0) (hi := 3) hS hT hC o_r_170 ⟨by omega, by omega⟩ ⟨by omega, by omega⟩) ?_
    rintro _ M9 ⟨z_171, hz_z_171, rfl, h9, hv_z_171⟩
    obtain ⟨z_1711, z_1712⟩ := hz_z_171
    obtain ⟨r_172, e_r_172⟩ : ∃ x, x = rN T 0 3 r_170 := ⟨_, rfl⟩
    rw [← e_r_172] at h9
    rw [h9]
    have o_r_172 : rOk T r_172 := by rw [e_r_172]; exact o_r_170.N hT
    have i_r_172 := o_r_172.2
    show Go (Ct (d + 3)) _ yX4_readHopper cX4_readHopper none 0 0 32 [some (.ref 9), some (.int (iI 0)), some (.int (iI z_167)), some (.int (iI z_169)), none, none] [.int (iI z_171)] (rM M r_172)
    refine r_istore4 (pc2 := 34) dX4_readHopper_32 rfl rfl ?_
    refine r_aload0 (pc2 := 35) dX4_readHopper_34 rfl ?_
    refine r_iconst (pc2 := 36) dX4_readHopper_35 rfl ?_
    refine r_sipush (pc2 := 39) dX4_readHopper_36 rfl (by decide) (by decide) ?_
    refine r_cv2 (pc2 := 42) dX4_readHopper_39 rfl vX4_111 (hK_9 hS) (by decide) (c_X4_readNumber (d := d + 1) (M := M) (r := r_172) (lo := 0) (hi := 999) hS hT hC o_r_172 ⟨by omega, by omega⟩ ⟨by omega, by omega⟩) ?_
    rintro _ M9 ⟨z_173, hz_z_173, rfl, h9, hv_z_173⟩
    obtain ⟨z_1731, z_1732⟩ := hz_z_173
    obtain ⟨r_174, e_r_174⟩ : ∃ x, x = rN T 0 999 r_172 := ⟨_, rfl⟩
    rw [← e_r_174] at h9
    rw [h9]
    have o_r_174 : rOk T r_174 := by rw [e_r_174]; exact o_r_172.N hT
    have i_r_174 := o_r_174.2
    show Go (Ct (d + 3)) _ yX4_readHopper cX4_readHopper none 0 0 42 [some (.ref 9), some (.int (iI 0)), some (.int (iI z_167)), some (.int (iI z_169)), some (.int (iI z_171)), none] [.int (iI z_173)] (rM M r_174)
    refine r_istore5 (pc2 := 44) dX4_readHopper_42 rfl rfl ?_
    refine r_aload0 (pc2 := 45) dX4_readHopper_44 rfl ?_
    refine r_bipush (pc2 := 47) dX4_readHopper_45 rfl (by decide) (by decide) ?_
    refine r_cv1 (pc2 := 50) dX4_readHopper_47 rfl vX4_115 (hK_9 hS) (by decide) (c_X4_readKind (d := d + 1) (M := M) (r := r_174) (k := 59) hS hT hC o_r_174 ⟨by omega, by omega⟩) ?_
    rintro _ M9 ⟨rfl, h9⟩
    obtain ⟨r_175, e_r_175⟩ : ∃ x, x = rK T 59 r_174 := ⟨_, rfl⟩
    rw [← e_r_175] at h9
    rw [h9]
    have o_r_175 : rOk T r_175 := by rw [e_r_175]; exact o_r_174.K hT
    have i_r_175 := o_r_175.2
    show Go (Ct (d + 3)) _ yX4_readHopper cX4_readHopper none 0 0 50 [some (.ref 9), some (.int (iI 0)), some (.int (iI z_167)), some (.int (iI z_169)), some (.int (iI z_171)), some (.int (iI z_173))] [] (rM M r_175)
    refine r_aload0 (pc2 := 51) dX4_readHopper_50 rfl ?_
    refine r_iload1 (pc2 := 52) dX4_readHopper_51 rfl ?_
    refine r_iload2 (pc2 := 53) dX4_readHopper_52 rfl ?_
    refine r_iload3 (pc2 := 54) dX4_readHopper_53 rfl ?_
    refine r_iload4 (pc2 := 56) dX4_readHopper_54 rfl ?_
    refine r_iload5 (pc2 := 58) dX4_readHopper_56 rfl ?_
    refine r_cv5 (pc2 := 61) dX4_readHopper_58 rfl vX4_118 (hK_9 hS) (by decide) (c_X4_write (d := d + 2) (M := rM M r_175) (i := 0) (x := z_167) (y := z_169) (z := z_171) (w := z_173) hS (by omega)) ?_
    rintro _ M9 ⟨rfl, h9⟩
    rw [rM_o (by omega), rM_o (by omega), rM_o (by omega), rM_o (by omega)] at h9
    obtain ⟨W176, h_W176⟩ : ∃ x, x = pI (pI (pI (pI M 12 0 z_167) 13 0 z_169) 14 0 z_171) 15 0 z_173 := ⟨_, rfl⟩
    rw [← h_W176] at h9
    rw [h9]
    have hS_W176 : sOk W176.1 := by rw [h_W176]; exact hS
    have hC_W176 : cT W176 T := by rw [h_W176]; exact hC
    show Go (Ct (d + 3)) _ yX4_readHopper cX4_readHopper none 0 0 61 [some (.ref 9), some (.int (iI 0)), some (.int (iI z_167)), some (.int (iI z_169)), some (.int (iI z_171)), some (.int (iI z_173))] [] (rM W176 r_175)
    refine r_ret dX4_readHopper_61 rfl ?_
    have hl : lHopper T r G = (r_175, gLine G 16 ((kV T r_156.1 : Nat) : Int) ((kV T r_168.1 : Nat) : Int) ((kV T r_170.1 : Nat) : Int) ((kV T r_172.1 : Nat) : Int)) := by
      unfold lHopper
      dsimp only
      rw [← e_r_155, ← e_r_156, ← e_r_168, ← e_r_170, ← e_r_172, ← e_r_174, ← e_r_175]
    rw [hl]
    refine ⟨rfl, (by rw [h_W176]; exact (fr.I (fr.I (fr.I (fr.I (fr.I (fr.I fr.rf (by decide)) (by decide)) (by decide)) (by decide)) (by decide)) (by decide))), rfl, fun q => ⟨rfl, ?_⟩⟩
    have f_r_175 := rK_0 (k := 59) hT o_r_174 (by omega) (by rw [← e_r_175]; exact q)
    have f_r_174 := rN_0 (lo := 0) (hi := 999) hT o_r_172 (by rw [← e_r_174]; exact f_r_175.1)
    have v_z_173 := hv_z_173 (by rw [← e_r_174]; exact f_r_175.1)
    have f_r_172 := rN_0 (lo := 0) (hi := 3) hT o_r_170 (by rw [← e_r_172]; exact f_r_174.1)
    have v_z_171 := hv_z_171 (by rw [← e_r_172]; exact f_r_174.1)
    have f_r_170 := rN_0 (lo := 0) (hi := 12) hT o_r_168 (by rw [← e_r_170]; exact f_r_172.1)
    have v_z_169 := hv_z_169 (by rw [← e_r_170]; exact f_r_172.1)
    have f_r_168 := rN_0 (lo := 0) (hi := 3) hT o_r_156 (by rw [← e_r_168]; exact f_r_170.1)
    have v_z_167 := hv_z_167 (by rw [← e_r_168]; exact f_r_170.1)
    have f_r_156 : r_155.2 = 0 := av_0 (by rw [← e_r_156]; exact f_r_168.1)
    exact absurd (f_r_156) hf_r_156
