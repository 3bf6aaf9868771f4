/-! the class's lane, use, let and the closing -/
theorem ck_1 {T : tD} {r : rdT} : (if kK T r.1 = 18 then r else fl T 1 r).1 = r.1 := by
  split
  · rfl
  · unfold fl; split <;> rfl
theorem ck_0 {T : tD} {r : rdT} (h : 0 ≤ r.2) (q : (if kK T r.1 = 18 then r else fl T 1 r).2 = 0) : kK T r.1 = 18 ∧ (if kK T r.1 = 18 then r else fl T 1 r) = r := by
  split at q
  · rename_i c; exact ⟨c, if_pos c⟩
  · exact absurd q (fl_f (by omega) h)
theorem ck_n {T : tD} {r : rdT} {w : Int} (h : 0 ≤ r.2) (hk : ¬ kK T r.1 = 18) : fl T w (if kK T r.1 = 18 then r else fl T 1 r) = (if kK T r.1 = 18 then r else fl T 1 r) := by
  rw [if_neg hk]
  exact fl_n (fl_f (by omega) h)
theorem fl_1 {T : tD} {r : rdT} {w : Int} : (fl T w r).1 = r.1 := by unfold fl; split <;> rfl

set_option maxHeartbeats 4000000 in
theorem c_X4_readLane {d : Nat} {M : pM} {T : tD} {r : rdT} {G : gPr} (hS : sOk M.1) (hT : tOk T) (hC : cT M T) (o_r : rOk T r) (hr : r.2 = 0) (hG : CG M G) (hg : gOk G) (h125 : gS G < 125) : Ct (d + 4) 0 0 yX4_readLane [.ref 9] (rM M r) (fun v M2 => v = none ∧ cPo M M2 (lLane T r G)) := by
  refine ct_in (d := (d + 3)) kX4_readLane rfl (by decide) (Nat.le_of_ble_eq_true rfl) (by decide) ?_
  show Go (Ct (d + 3)) _ yX4_readLane cX4_readLane none 0 0 0 [some (.ref 9), none, none, none] [] (rM M r)
  have hT1 := hT.1
  have i_r := o_r.2
  have hg1 := hg.1
  have hg2 := hg.2.1
  have hg3 := hg.2.2.1
  refine r_aload0 (pc2 := 1) dX4_readLane_0 rfl ?_
  refine r_cv0 (pc2 := 4) dX4_readLane_1 rfl vX4_131 (hK_9 hS) (by decide) (c_X4_checkOutside (d := d + 1) (M := M) (r := r) (G := G) hS hT hC o_r hG hg) ?_
  rintro _ M9 ⟨rfl, h9⟩
  obtain ⟨r_177, e_r_177⟩ : ∃ x, x = cOu T r G := ⟨_, rfl⟩
  rw [← e_r_177] at h9
  rw [h9]
  have o_r_177 : rOk T r_177 := by rw [e_r_177]; exact rOk_cOu hT o_r
  have i_r_177 := o_r_177.2
  show Go (Ct (d + 3)) _ yX4_readLane cX4_readLane none 0 0 4 [some (.ref 9), none, none, none] [] (rM M r_177)
  refine r_aload0 (pc2 := 5) dX4_readLane_4 rfl ?_
  refine r_bipush (pc2 := 7) dX4_readLane_5 rfl (by decide) (by decide) ?_
  refine r_cv1 (pc2 := 10) dX4_readLane_7 rfl vX4_100 (hK_9 hS) (by decide) (c_X4_bg (d := d + 1) (M := M) (r := r_177) (G := G) (a := 15) hS hT hC o_r_177 hG hg h125) ?_
  rintro _ M9 (⟨hf_r_178, rfl, h9⟩ | ⟨hf_r_178, rfl, h9⟩)
  · obtain ⟨r_178, e_r_178⟩ : ∃ x, x = av T r_177 := ⟨_, rfl⟩
    rw [← e_r_178] at h9
    obtain ⟨M1, h1⟩ : ∃ x, x = pI (pI (pI M 10 (gS G) 15) 11 (gS G) (((gS G + 1 : Nat)) : Int)) 9 11 (((gS G + 1 : Nat)) : Int) := ⟨_, rfl⟩
    rw [← h1] at h9
    rw [h9]
    have o_r_178 : rOk T r_178 := by rw [e_r_178]; exact o_r_177.a
    have i_r_178 := o_r_178.2
    have hS_M1 : sOk M1.1 := by rw [h1]; exact hS
    have hC_M1 : cT M1 T := by rw [h1]; exact hC
    show Go (Ct (d + 3)) _ yX4_readLane cX4_readLane none 0 0 10 [some (.ref 9), none, none, none] [.int (iI ((gS G : Nat) : Int))] (rM M1 r_178)
    refine r_istore1 (pc2 := 11) dX4_readLane_10 rfl rfl ?_
    refine r_aload0 (pc2 := 12) dX4_readLane_11 rfl ?_
    refine r_iconst (pc2 := 13) dX4_readLane_12 rfl ?_
    refine r_bipush (pc2 := 15) dX4_readLane_13 rfl (by decide) (by decide) ?_
    refine r_cv2 (pc2 := 18) dX4_readLane_15 rfl vX4_111 (hK_9 hS_M1) (by decide) (c_X4_readNumber (d := d + 1) (M := M1) (r := r_178) (lo := 0) (hi := 12) hS_M1 hT hC_M1 o_r_178 ⟨by omega, by omega⟩ ⟨by omega, by omega⟩) ?_
    rintro _ M9 ⟨z_179, hz_z_179, rfl, h9, hv_z_179⟩
    obtain ⟨z_1791, z_1792⟩ := hz_z_179
    obtain ⟨r_180, e_r_180⟩ : ∃ x, x = rN T 0 12 r_178 := ⟨_, rfl⟩
    rw [← e_r_180] at h9
    rw [h9]
    have o_r_180 : rOk T r_180 := by rw [e_r_180]; exact o_r_178.N hT
    have i_r_180 := o_r_180.2
    show Go (Ct (d + 3)) _ yX4_readLane cX4_readLane none 0 0 18 [some (.ref 9), some (.int (iI ((gS G : Nat) : Int))), none, none] [.int (iI z_179)] (rM M1 r_180)
    refine r_istore2 (pc2 := 19) dX4_readLane_18 rfl rfl ?_
    refine r_aload0 (pc2 := 20) dX4_readLane_19 rfl ?_
    refine r_iconst (pc2 := 21) dX4_readLane_20 rfl ?_
    refine r_iconst (pc2 := 22) dX4_readLane_21 rfl ?_
    refine r_cv2 (pc2 := 25) dX4_readLane_22 rfl vX4_111 (hK_9 hS_M1) (by decide) (c_X4_readNumber (d := d + 1) (M := M1) (r := r_180) (lo := 0) (hi := 4) hS_M1 hT hC_M1 o_r_180 ⟨by omega, by omega⟩ ⟨by omega, by omega⟩) ?_
    rintro _ M9 ⟨z_181, hz_z_181, rfl, h9, hv_z_181⟩
    obtain ⟨z_1811, z_1812⟩ := hz_z_181
    obtain ⟨r_182, e_r_182⟩ : ∃ x, x = rN T 0 4 r_180 := ⟨_, rfl⟩
    rw [← e_r_182] at h9
    rw [h9]
    have o_r_182 : rOk T r_182 := by rw [e_r_182]; exact o_r_180.N hT
    have i_r_182 := o_r_182.2
    show Go (Ct (d + 3)) _ yX4_readLane cX4_readLane none 0 0 25 [some (.ref 9), some (.int (iI ((gS G : Nat) : Int))), some (.int (iI z_179)), none] [.int (iI z_181)] (rM M1 r_182)
    refine r_istore3 (pc2 := 26) dX4_readLane_25 rfl rfl ?_
    refine r_aload0 (pc2 := 27) dX4_readLane_26 rfl ?_
    refine r_bipush (pc2 := 29) dX4_readLane_27 rfl (by decide) (by decide) ?_
    refine r_cv1 (pc2 := 32) dX4_readLane_29 rfl vX4_115 (hK_9 hS_M1) (by decide) (c_X4_readKind (d := d + 1) (M := M1) (r := r_182) (k := 59) hS_M1 hT hC_M1 o_r_182 ⟨by omega, by omega⟩) ?_
    rintro _ M9 ⟨rfl, h9⟩
    obtain ⟨r_183, e_r_183⟩ : ∃ x, x = rK T 59 r_182 := ⟨_, rfl⟩
    rw [← e_r_183] at h9
    rw [h9]
    have o_r_183 : rOk T r_183 := by rw [e_r_183]; exact o_r_182.K hT
    have i_r_183 := o_r_183.2
    show Go (Ct (d + 3)) _ yX4_readLane cX4_readLane none 0 0 32 [some (.ref 9), some (.int (iI ((gS G : Nat) : Int))), some (.int (iI z_179)), some (.int (iI z_181))] [] (rM M1 r_183)
    refine r_aload0 (pc2 := 33) dX4_readLane_32 rfl ?_
    refine r_iload1 (pc2 := 34) dX4_readLane_33 rfl ?_
    refine r_iload2 (pc2 := 35) dX4_readLane_34 rfl ?_
    refine r_iload3 (pc2 := 36) dX4_readLane_35 rfl ?_
    refine r_iconst (pc2 := 37) dX4_readLane_36 rfl ?_
    refine r_icne (tgt := 44) (pc2 := 40) dX4_readLane_37 rfl (by decide) ⟨by omega, by omega⟩ ⟨by omega, by omega⟩ (fun b_37 => ?_) (fun b_37 => ?_)
    · refine r_iload3 (pc2 := 45) dX4_readLane_44 rfl ?_
      refine r_iconst (pc2 := 46) dX4_readLane_45 rfl ?_
      refine r_iconst (pc2 := 47) dX4_readLane_46 rfl ?_
      refine r_cv5 (pc2 := 50) dX4_readLane_47 rfl vX4_118 (hK_9 hS_M1) (by decide) (c_X4_write (d := d + 2) (M := rM M1 r_183) (i := (gS G)) (x := z_179) (y := z_181) (z := 0) (w := 0) hS_M1 (by omega)) ?_
      rintro _ M9 ⟨rfl, h9⟩
      rw [rM_o (by omega), rM_o (by omega), rM_o (by omega), rM_o (by omega)] at h9
      obtain ⟨W184, h_W184⟩ : ∃ x, x = pI (pI (pI (pI M1 12 (gS G) z_179) 13 (gS G) z_181) 14 (gS G) 0) 15 (gS G) 0 := ⟨_, rfl⟩
      rw [← h_W184] at h9
      rw [h9]
      have hS_W184 : sOk W184.1 := by rw [h_W184]; exact hS_M1
      have hC_W184 : cT W184 T := by rw [h_W184]; exact hC_M1
      show Go (Ct (d + 3)) _ yX4_readLane cX4_readLane none 0 0 50 [some (.ref 9), some (.int (iI ((gS G : Nat) : Int))), some (.int (iI z_179)), some (.int (iI z_181))] [] (rM W184 r_183)
      refine r_ret dX4_readLane_50 rfl ?_
      have hl : lLane T r G = (r_183, gLine G 15 ((kV T r_178.1 : Nat) : Int) (if ((kV T r_180.1 : Nat) : Int) = 4 then -1 else ((kV T r_180.1 : Nat) : Int)) 0 0) := by
        unfold lLane
        dsimp only
        rw [← e_r_177, ← e_r_178, ← e_r_180, ← e_r_182, ← e_r_183]
      rw [hl]
      refine ⟨rfl, (by rw [h_W184, h1]; exact (fr.I (fr.I (fr.I (fr.I (fr.I (fr.I (fr.I (fr.I (fr.I fr.rf (by decide)) (by decide)) (by decide)) (by decide)) (by decide)) (by decide)) (by decide)) (by decide)) (by decide))), rfl, fun q => ⟨rfl, ?_⟩⟩
      have f_r_183 := rK_0 (k := 59) hT o_r_182 (by omega) (by rw [← e_r_183]; exact q)
      have f_r_182 := rN_0 (lo := 0) (hi := 4) hT o_r_180 (by rw [← e_r_182]; exact f_r_183.1)
      have v_z_181 := hv_z_181 (by rw [← e_r_182]; exact f_r_183.1)
      have f_r_180 := rN_0 (lo := 0) (hi := 12) hT o_r_178 (by rw [← e_r_180]; exact f_r_182.1)
      have v_z_179 := hv_z_179 (by rw [← e_r_180]; exact f_r_182.1)
      have f_r_178 : r_177.2 = 0 := av_0 (by rw [← e_r_178]; exact f_r_180.1)
      have c4 : ¬ ((kV T r_180.1 : Nat) : Int) = 4 := by omega
      rw [h_W184, h1, if_neg c4, v_z_179, v_z_181]
      exact (CG.line hG hg).r
    · refine r_iconst (pc2 := 41) dX4_readLane_40 rfl ?_
      refine r_goto (tgt := 45) dX4_readLane_41 (by decide) ?_
      refine r_iconst (pc2 := 46) dX4_readLane_45 rfl ?_
      refine r_iconst (pc2 := 47) dX4_readLane_46 rfl ?_
      refine r_cv5 (pc2 := 50) dX4_readLane_47 rfl vX4_118 (hK_9 hS_M1) (by decide) (c_X4_write (d := d + 2) (M := rM M1 r_183) (i := (gS G)) (x := z_179) (y := (-1)) (z := 0) (w := 0) hS_M1 (by omega)) ?_
      rintro _ M9 ⟨rfl, h9⟩
      rw [rM_o (by omega), rM_o (by omega), rM_o (by omega), rM_o (by omega)] at h9
      obtain ⟨W185, h_W185⟩ : ∃ x, x = pI (pI (pI (pI M1 12 (gS G) z_179) 13 (gS G) (-1)) 14 (gS G) 0) 15 (gS G) 0 := ⟨_, rfl⟩
      rw [← h_W185] at h9
      rw [h9]
      have hS_W185 : sOk W185.1 := by rw [h_W185]; exact hS_M1
      have hC_W185 : cT W185 T := by rw [h_W185]; exact hC_M1
      show Go (Ct (d + 3)) _ yX4_readLane cX4_readLane none 0 0 50 [some (.ref 9), some (.int (iI ((gS G : Nat) : Int))), some (.int (iI z_179)), some (.int (iI z_181))] [] (rM W185 r_183)
      refine r_ret dX4_readLane_50 rfl ?_
      have hl : lLane T r G = (r_183, gLine G 15 ((kV T r_178.1 : Nat) : Int) (if ((kV T r_180.1 : Nat) : Int) = 4 then -1 else ((kV T r_180.1 : Nat) : Int)) 0 0) := by
        unfold lLane
        dsimp only
        rw [← e_r_177, ← e_r_178, ← e_r_180, ← e_r_182, ← e_r_183]
      rw [hl]
      refine ⟨rfl, (by rw [h_W185, h1]; exact (fr.I (fr.I (fr.I (fr.I (fr.I (fr.I (fr.I (fr.I (fr.I fr.rf (by decide)) (by decide)) (by decide)) (by decide)) (by decide)) (by decide)) (by decide)) (by decide)) (by decide))), rfl, fun q => ⟨rfl, ?_⟩⟩
      have f_r_183 := rK_0 (k := 59) hT o_r_182 (by omega) (by rw [← e_r_183]; exact q)
      have f_r_182 := rN_0 (lo := 0) (hi := 4) hT o_r_180 (by rw [← e_r_182]; exact f_r_183.1)
      have v_z_181 := hv_z_181 (by rw [← e_r_182]; exact f_r_183.1)
      have f_r_180 := rN_0 (lo := 0) (hi := 12) hT o_r_178 (by rw [← e_r_180]; exact f_r_182.1)
      have v_z_179 := hv_z_179 (by rw [← e_r_180]; exact f_r_182.1)
      have f_r_178 : r_177.2 = 0 := av_0 (by rw [← e_r_178]; exact f_r_180.1)
      have c4 : ((kV T r_180.1 : Nat) : Int) = 4 := by omega
      rw [h_W185, h1, if_pos c4, v_z_179]
      exact (CG.line hG hg).r
  · obtain ⟨r_178, e_r_178⟩ : ∃ x, x = av T r_177 := ⟨_, rfl⟩
    rw [← e_r_178] at h9
    rw [h9]
    have o_r_178 : rOk T r_178 := by rw [e_r_178]; exact o_r_177.a
    have i_r_178 := o_r_178.2
    show Go (Ct (d + 3)) _ yX4_readLane cX4_readLane none 0 0 10 [some (.ref 9), none, none, none] [.int (iI 0)] (rM M r_178)
    refine r_istore1 (pc2 := 11) dX4_readLane_10 rfl rfl ?_
    refine r_aload0 (pc2 := 12) dX4_readLane_11 rfl ?_
    refine r_iconst (pc2 := 13) dX4_readLane_12 rfl ?_
    refine r_bipush (pc2 := 15) dX4_readLane_13 rfl (by decide) (by decide) ?_
    refine r_cv2 (pc2 := 18) dX4_readLane_15 rfl vX4_111 (hK_9 hS) (by decide) (c_X4_readNumber (d := d + 1) (M := M) (r := r_178) (lo := 0) (hi := 12) hS hT hC o_r_178 ⟨by omega, by omega⟩ ⟨by omega, by omega⟩) ?_
    rintro _ M9 ⟨z_186, hz_z_186, rfl, h9, hv_z_186⟩
    obtain ⟨z_1861, z_1862⟩ := hz_z_186
    obtain ⟨r_187, e_r_187⟩ : ∃ x, x = rN T 0 12 r_178 := ⟨_, rfl⟩
    rw [← e_r_187] at h9
    rw [h9]
    have o_r_187 : rOk T r_187 := by rw [e_r_187]; exact o_r_178.N hT
    have i_r_187 := o_r_187.2
    show Go (Ct (d + 3)) _ yX4_readLane cX4_readLane none 0 0 18 [some (.ref 9), some (.int (iI 0)), none, none] [.int (iI z_186)] (rM M r_187)
    refine r_istore2 (pc2 := 19) dX4_readLane_18 rfl rfl ?_
    refine r_aload0 (pc2 := 20) dX4_readLane_19 rfl ?_
    refine r_iconst (pc2 := 21) dX4_readLane_20 rfl ?_
    refine r_iconst (pc2 := 22) dX4_readLane_21 rfl ?_
    refine r_cv2 (pc2 := 25) dX4_readLane_22 rfl vX4_111 (hK_9 hS) (by decide) (c_X4_readNumber (d := d + 1) (M := M) (r := r_187) (lo := 0) (hi := 4) hS hT hC o_r_187 ⟨by omega, by omega⟩ ⟨by omega, by omega⟩) ?_
    rintro _ M9 ⟨z_188, hz_z_188, rfl, h9, hv_z_188⟩
    obtain ⟨z_1881, z_1882⟩ := hz_z_188
    obtain ⟨r_189, e_r_189⟩ : ∃ x, x = rN T 0 4 r_187 := ⟨_, rfl⟩
    rw [← e_r_189] at h9
    rw [h9]
    have o_r_189 : rOk T r_189 := by rw [e_r_189]; exact o_r_187.N hT
    have i_r_189 := o_r_189.2
    show Go (Ct (d + 3)) _ yX4_readLane cX4_readLane none 0 0 25 [some (.ref 9), some (.int (iI 0)), some (.int (iI z_186)), none] [.int (iI z_188)] (rM M r_189)
    refine r_istore3 (pc2 := 26) dX4_readLane_25 rfl rfl ?_
    refine r_aload0 (pc2 := 27) dX4_readLane_26 rfl ?_
    refine r_bipush (pc2 := 29) dX4_readLane_27 rfl (by decide) (by decide) ?_
    refine r_cv1 (pc2 := 32) dX4_readLane_29 rfl vX4_115 (hK_9 hS) (by decide) (c_X4_readKind (d := d + 1) (M := M) (r := r_189) (k := 59) hS hT hC o_r_189 ⟨by omega, by omega⟩) ?_
    rintro _ M9 ⟨rfl, h9⟩
    obtain ⟨r_190, e_r_190⟩ : ∃ x, x = rK T 59 r_189 := ⟨_, rfl⟩
    rw [← e_r_190] at h9
    rw [h9]
    have o_r_190 : rOk T r_190 := by rw [e_r_190]; exact o_r_189.K hT
    have i_r_190 := o_r_190.2
    show Go (Ct (d + 3)) _ yX4_readLane cX4_readLane none 0 0 32 [some (.ref 9), some (.int (iI 0)), some (.int (iI z_186)), some (.int (iI z_188))] [] (rM M r_190)
    refine r_aload0 (pc2 := 33) dX4_readLane_32 rfl ?_
    refine r_iload1 (pc2 := 34) dX4_readLane_33 rfl ?_
    refine r_iload2 (pc2 := 35) dX4_readLane_34 rfl ?_
    refine r_iload3 (pc2 := 36) dX4_readLane_35 rfl ?_
    refine r_iconst (pc2 := 37) dX4_readLane_36 rfl ?_
    refine r_icne (tgt := 44) (pc2 := 40) dX4_readLane_37 rfl (by decide) ⟨by omega, by omega⟩ ⟨by omega, by omega⟩ (fun b_37 => ?_) (fun b_37 => ?_)
    · refine r_iload3 (pc2 := 45) dX4_readLane_44 rfl ?_
      refine r_iconst (pc2 := 46) dX4_readLane_45 rfl ?_
      refine r_iconst (pc2 := 47) dX4_readLane_46 rfl ?_
      refine r_cv5 (pc2 := 50) dX4_readLane_47 rfl vX4_118 (hK_9 hS) (by decide) (c_X4_write (d := d + 2) (M := rM M r_190) (i := 0) (x := z_186) (y := z_188) (z := 0) (w := 0) hS (by omega)) ?_
      rintro _ M9 ⟨rfl, h9⟩
      rw [rM_o (by omega), rM_o (by omega), rM_o (by omega), rM_o (by omega)] at h9
      obtain ⟨W191, h_W191⟩ : ∃ x, x = pI (pI (pI (pI M 12 0 z_186) 13 0 z_188) 14 0 0) 15 0 0 := ⟨_, rfl⟩
      rw [← h_W191] at h9
      rw [h9]
      have hS_W191 : sOk W191.1 := by rw [h_W191]; exact hS
      have hC_W191 : cT W191 T := by rw [h_W191]; exact hC
      show Go (Ct (d + 3)) _ yX4_readLane cX4_readLane none 0 0 50 [some (.ref 9), some (.int (iI 0)), some (.int (iI z_186)), some (.int (iI z_188))] [] (rM W191 r_190)
      refine r_ret dX4_readLane_50 rfl ?_
      have hl : lLane T r G = (r_190, gLine G 15 ((kV T r_178.1 : Nat) : Int) (if ((kV T r_187.1 : Nat) : Int) = 4 then -1 else ((kV T r_187.1 : Nat) : Int)) 0 0) := by
        unfold lLane
        dsimp only
        rw [← e_r_177, ← e_r_178, ← e_r_187, ← e_r_189, ← e_r_190]
      rw [hl]
      refine ⟨rfl, (by rw [h_W191]; exact (fr.I (fr.I (fr.I (fr.I (fr.I (fr.I fr.rf (by decide)) (by decide)) (by decide)) (by decide)) (by decide)) (by decide))), rfl, fun q => ⟨rfl, ?_⟩⟩
      have f_r_190 := rK_0 (k := 59) hT o_r_189 (by omega) (by rw [← e_r_190]; exact q)
      have f_r_189 := rN_0 (lo := 0) (hi := 4) hT o_r_187 (by rw [← e_r_189]; exact f_r_190.1)
      have v_z_188 := hv_z_188 (by rw [← e_r_189]; exact f_r_190.1)
      have f_r_187 := rN_0 (lo := 0) (hi := 12) hT o_r_178 (by rw [← e_r_187]; exact f_r_189.1)
      have v_z_186 := hv_z_186 (by rw [← e_r_187]; exact f_r_189.1)
      have f_r_178 : r_177.2 = 0 := av_0 (by rw [← e_r_178]; exact f_r_187.1)
      exact absurd (f_r_178) hf_r_178
    · refine r_iconst (pc2 := 41) dX4_readLane_40 rfl ?_
      refine r_goto (tgt := 45) dX4_readLane_41 (by decide) ?_
      refine r_iconst (pc2 := 46) dX4_readLane_45 rfl ?_
      refine r_iconst (pc2 := 47) dX4_readLane_46 rfl ?_
      refine r_cv5 (pc2 := 50) dX4_readLane_47 rfl vX4_118 (hK_9 hS) (by decide) (c_X4_write (d := d + 2) (M := rM M r_190) (i := 0) (x := z_186) (y := (-1)) (z := 0) (w := 0) hS (by omega)) ?_
      rintro _ M9 ⟨rfl, h9⟩
      rw [rM_o (by omega), rM_o (by omega), rM_o (by omega), rM_o (by omega)] at h9
      obtain ⟨W192, h_W192⟩ : ∃ x, x = pI (pI (pI (pI M 12 0 z_186) 13 0 (-1)) 14 0 0) 15 0 0 := ⟨_, rfl⟩
      rw [← h_W192] at h9
      rw [h9]
      have hS_W192 : sOk W192.1 := by rw [h_W192]; exact hS
      have hC_W192 : cT W192 T := by rw [h_W192]; exact hC
      show Go (Ct (d + 3)) _ yX4_readLane cX4_readLane none 0 0 50 [some (.ref 9), some (.int (iI 0)), some (.int (iI z_186)), some (.int (iI z_188))] [] (rM W192 r_190)
      refine r_ret dX4_readLane_50 rfl ?_
      have hl : lLane T r G = (r_190, gLine G 15 ((kV T r_178.1 : Nat) : Int) (if ((kV T r_187.1 : Nat) : Int) = 4 then -1 else ((kV T r_187.1 : Nat) : Int)) 0 0) := by
        unfold lLane
        dsimp only
        rw [← e_r_177, ← e_r_178, ← e_r_187, ← e_r_189, ← e_r_190]
      rw [hl]
      refine ⟨rfl, (by rw [h_W192]; exact (fr.I (fr.I (fr.I (fr.I (fr.I (fr.I fr.rf (by decide)) (by decide)) (by decide)) (by decide)) (by decide)) (by decide))), rfl, fun q => ⟨rfl, ?_⟩⟩
      have f_r_190 := rK_0 (k := 59) hT o_r_189 (by omega) (by rw [← e_r_190]; exact q)
      have f_r_189 := rN_0 (lo := 0) (hi := 4) hT o_r_187 (by rw [← e_r_189]; exact f_r_190.1)
      have v_z_188 := hv_z_188 (by rw [← e_r_189]; exact f_r_190.1)
      have f_r_187 := rN_0 (lo := 0) (hi := 12) hT o_r_178 (by rw [← e_r_187]; exact f_r_189.1)
      have v_z_186 := hv_z_186 (by rw [← e_r_187]; exact f_r_189.1)
      have f_r_178 : r_177.2 = 0 := av_0 (by rw [← e_r_178]; exact f_r_187.1)
      exact absurd (f_r_178) hf_r_178
set_option maxHeartbeats 4000000 in
theorem c_X4_readUse {d : Nat} {M : pM} {T : tD} {r : rdT} {G : gPr} (hS : sOk M.1) (hT : tOk T) (hC : cT M T) (o_r : rOk T r) (hr : r.2 = 0) (hG : CG M G) (hg : gOk G) (h125 : gS G < 125) : Ct (d + 5) 0 0 yX4_readUse [.ref 9] (rM M r) (fun v M2 => v = none ∧ cPo M M2 (lUse T r G)) := by
  refine ct_in (d := (d + 4)) kX4_readUse rfl (by decide) (Nat.le_of_ble_eq_true rfl) (by decide) ?_
  show Go (Ct (d + 4)) _ yX4_readUse cX4_readUse none 0 0 0 [some (.ref 9), none, none, none, none] [] (rM M r)
  have hT1 := hT.1
  have i_r := o_r.2
  have hg1 := hg.1
  have hg2 := hg.2.1
  have hg3 := hg.2.2.1
  refine r_aload0 (pc2 := 1) dX4_readUse_0 rfl ?_
  refine r_bipush (pc2 := 3) dX4_readUse_1 rfl (by decide) (by decide) ?_
  refine r_cv1 (pc2 := 6) dX4_readUse_3 rfl vX4_100 (hK_9 hS) (by decide) (c_X4_begin (d := d + 2) (M := M) (r := r) (G := G) (a := 14) hS hT hC o_r hG hg hr h125) ?_
  rintro _ M9 ⟨rfl, h9⟩
  obtain ⟨r_193, e_r_193⟩ : ∃ x, x = av T r := ⟨_, rfl⟩
  obtain ⟨M1, h1⟩ : ∃ x, x = pI (pI (pI M 10 (gS G) 14) 11 (gS G) (((gS G + 1 : Nat)) : Int)) 9 11 (((gS G + 1 : Nat)) : Int) := ⟨_, rfl⟩
  rw [← e_r_193, ← h1] at h9
  rw [h9]
  have o_r_193 : rOk T r_193 := by rw [e_r_193]; exact o_r.a
  have i_r_193 := o_r_193.2
  have hS_M1 : sOk M1.1 := by rw [h1]; exact hS
  have hC_M1 : cT M1 T := by rw [h1]; exact hC
  show Go (Ct (d + 4)) _ yX4_readUse cX4_readUse none 0 0 6 [some (.ref 9), none, none, none, none] [.int (iI ((gS G : Nat) : Int))] (rM M1 r_193)
  refine r_istore1 (pc2 := 7) dX4_readUse_6 rfl rfl ?_
  refine r_aload0 (pc2 := 8) dX4_readUse_7 rfl ?_
  refine r_cv0 (pc2 := 11) dX4_readUse_8 rfl vX4_134 (hK_9 hS_M1) (by decide) (c_X4_checkName (d := d + 2) (M := M1) (r := r_193) hS_M1 hT hC_M1 o_r_193) ?_
  rintro _ M9 ⟨rfl, h9⟩
  obtain ⟨r_194, e_r_194⟩ : ∃ x, x = if kK T r_193.1 = 18 then r_193 else fl T 1 r_193 := ⟨_, rfl⟩
  rw [← e_r_194] at h9
  rw [h9]
  have o_r_194 : rOk T r_194 := by rw [e_r_194]; exact rOk_ck hT o_r_193
  have i_r_194 := o_r_194.2
  show Go (Ct (d + 4)) _ yX4_readUse cX4_readUse none 0 0 11 [some (.ref 9), some (.int (iI ((gS G : Nat) : Int))), none, none, none] [] (rM M1 r_194)
  refine r_aload0 (pc2 := 12) dX4_readUse_11 rfl ?_
  refine r_cv0 (pc2 := 15) dX4_readUse_12 rfl vX4_137 (hK_9 hS_M1) (by decide) (c_X4_nameAtHand (d := d + 3) (M := M1) (r := r_194) (G := G) hS_M1 hT hC_M1 o_r_194 (by rw [h1]; exact hG.2.1) (fun k hk => by rw [h1]; exact (hG.2.2.2.2.1 k (Or.inl hk)).1) hg) ?_
  rintro _ M9 ⟨z_195, z_1951, z_1952, rfl, h9, hv_z_195⟩
  rw [h9]
  show Go (Ct (d + 4)) _ yX4_readUse cX4_readUse none 0 0 15 [some (.ref 9), some (.int (iI ((gS G : Nat) : Int))), none, none, none] [.int (iI z_195)] (rM M1 r_194)
  refine r_istore2 (pc2 := 16) dX4_readUse_15 rfl rfl ?_
  refine r_iload2 (pc2 := 17) dX4_readUse_16 rfl ?_
  refine r_iconst (pc2 := 18) dX4_readUse_17 rfl ?_
  refine r_icne (tgt := 26) (pc2 := 21) dX4_readUse_18 rfl (by decide) ⟨by omega, by omega⟩ ⟨by omega, by omega⟩ (fun b_18 => ?_) (fun b_18 => ?_)
  · refine r_aload0 (pc2 := 27) dX4_readUse_26 rfl ?_
    refine r_cv0 (pc2 := 30) dX4_readUse_27 rfl vX4_108 (hK_9 hS_M1) (by decide) (c_X4_advance (d := d + 3) (M := M1) (r := r_194) hS_M1 hT hC_M1 o_r_194) ?_
    rintro _ M9 ⟨rfl, h9⟩
    obtain ⟨r_196, e_r_196⟩ : ∃ x, x = av T r_194 := ⟨_, rfl⟩
    rw [← e_r_196] at h9
    rw [h9]
    have o_r_196 : rOk T r_196 := by rw [e_r_196]; exact o_r_194.a
    have i_r_196 := o_r_196.2
    show Go (Ct (d + 4)) _ yX4_readUse cX4_readUse none 0 0 30 [some (.ref 9), some (.int (iI ((gS G : Nat) : Int))), some (.int (iI z_195)), none, none] [] (rM M1 r_196)
    refine r_aload0 (pc2 := 31) dX4_readUse_30 rfl ?_
    refine r_bipush (pc2 := 33) dX4_readUse_31 rfl (by decide) (by decide) ?_
    refine r_cv1 (pc2 := 36) dX4_readUse_33 rfl vX4_115 (hK_9 hS_M1) (by decide) (c_X4_readKind (d := d + 2) (M := M1) (r := r_196) (k := 17) hS_M1 hT hC_M1 o_r_196 ⟨by omega, by omega⟩) ?_
    rintro _ M9 ⟨rfl, h9⟩
    obtain ⟨r_197, e_r_197⟩ : ∃ x, x = rK T 17 r_196 := ⟨_, rfl⟩
    rw [← e_r_197] at h9
    rw [h9]
    have o_r_197 : rOk T r_197 := by rw [e_r_197]; exact o_r_196.K hT
    have i_r_197 := o_r_197.2
    show Go (Ct (d + 4)) _ yX4_readUse cX4_readUse none 0 0 36 [some (.ref 9), some (.int (iI ((gS G : Nat) : Int))), some (.int (iI z_195)), none, none] [] (rM M1 r_197)
    refine r_aload0 (pc2 := 37) dX4_readUse_36 rfl ?_
    refine r_cv0 (pc2 := 40) dX4_readUse_37 rfl vX4_125 (hK_9 hS_M1) (by decide) (c_X4_readShift (d := d + 1) (M := M1) (r := r_197) hS_M1 hT hC_M1 o_r_197) ?_
    rintro _ M9 ⟨z_198, hz_z_198, rfl, h9, hv_z_198⟩
    obtain ⟨z_1981, z_1982⟩ := hz_z_198
    obtain ⟨r_199, e_r_199⟩ : ∃ x, x = rS T r_197 := ⟨_, rfl⟩
    rw [← e_r_199] at h9
    rw [h9]
    have o_r_199 : rOk T r_199 := by rw [e_r_199]; exact o_r_197.S hT
    have i_r_199 := o_r_199.2
    show Go (Ct (d + 4)) _ yX4_readUse cX4_readUse none 0 0 40 [some (.ref 9), some (.int (iI ((gS G : Nat) : Int))), some (.int (iI z_195)), none, none] [.int (iI z_198)] (rM M1 r_199)
    refine r_istore3 (pc2 := 41) dX4_readUse_40 rfl rfl ?_
    refine r_aload0 (pc2 := 42) dX4_readUse_41 rfl ?_
    refine r_cv0 (pc2 := 45) dX4_readUse_42 rfl vX4_125 (hK_9 hS_M1) (by decide) (c_X4_readShift (d := d + 1) (M := M1) (r := r_199) hS_M1 hT hC_M1 o_r_199) ?_
    rintro _ M9 ⟨z_200, hz_z_200, rfl, h9, hv_z_200⟩
    obtain ⟨z_2001, z_2002⟩ := hz_z_200
    obtain ⟨r_201, e_r_201⟩ : ∃ x, x = rS T r_199 := ⟨_, rfl⟩
    rw [← e_r_201] at h9
    rw [h9]
    have o_r_201 : rOk T r_201 := by rw [e_r_201]; exact o_r_199.S hT
    have i_r_201 := o_r_201.2
    show Go (Ct (d + 4)) _ yX4_readUse cX4_readUse none 0 0 45 [some (.ref 9), some (.int (iI ((gS G : Nat) : Int))), some (.int (iI z_195)), some (.int (iI z_198)), none] [.int (iI z_200)] (rM M1 r_201)
    refine r_istore4 (pc2 := 47) dX4_readUse_45 rfl rfl ?_
    refine r_aload0 (pc2 := 48) dX4_readUse_47 rfl ?_
    refine r_bipush (pc2 := 50) dX4_readUse_48 rfl (by decide) (by decide) ?_
    refine r_cv1 (pc2 := 53) dX4_readUse_50 rfl vX4_115 (hK_9 hS_M1) (by decide) (c_X4_readKind (d := d + 2) (M := M1) (r := r_201) (k := 59) hS_M1 hT hC_M1 o_r_201 ⟨by omega, by omega⟩) ?_
    rintro _ M9 ⟨rfl, h9⟩
    obtain ⟨r_202, e_r_202⟩ : ∃ x, x = rK T 59 r_201 := ⟨_, rfl⟩
    rw [← e_r_202] at h9
    rw [h9]
    have o_r_202 : rOk T r_202 := by rw [e_r_202]; exact o_r_201.K hT
    have i_r_202 := o_r_202.2
    show Go (Ct (d + 4)) _ yX4_readUse cX4_readUse none 0 0 53 [some (.ref 9), some (.int (iI ((gS G : Nat) : Int))), some (.int (iI z_195)), some (.int (iI z_198)), some (.int (iI z_200))] [] (rM M1 r_202)
    refine r_aload0 (pc2 := 54) dX4_readUse_53 rfl ?_
    refine r_getI (z := r_202.2) (pc2 := 57) dX4_readUse_54 rfl (Or.inl fX4_57) (hK_9 hS_M1) rM_f ?_
    refine r_ifne (tgt := 75) (pc2 := 60) dX4_readUse_57 rfl (by decide) ⟨by omega, by omega⟩ (fun b_57 => ?_) (fun b_57 => ?_)
    · refine r_ret dX4_readUse_75 rfl ?_
      have e3 : (if fnN G (kI T r_193.1) = -1 then fl T 2 r_194 else r_194) = r_194 := by
        by_cases hk : kK T r_193.1 = 18
        · have hz := hv_z_195 (by unfold isW; rw [e_r_194, ck_1]; omega)
          rw [show r_194.1 = r_193.1 from by rw [e_r_194]; exact ck_1] at hz
          rw [if_neg (by omega)]
        · have hn : fl T 2 r_194 = r_194 := by rw [e_r_194]; exact ck_n i_r_193.1 hk
          rw [hn]; split <;> rfl
      have hl : lUse T r G = (r_202, gLine G 14 ((gL G (fnN G (kI T r_193.1)).toNat : Nat) : Int) (sV T r_197) (sV T r_199) 0) := by
        unfold lUse
        dsimp only
        rw [← e_r_193, ← e_r_194, e3, ← e_r_196, ← e_r_197, ← e_r_199, ← e_r_201, ← e_r_202]
      rw [hl]
      refine ⟨rfl, (by rw [h1]; exact (fr.I (fr.I (fr.I (fr.I (fr.I fr.rf (by decide)) (by decide)) (by decide)) (by decide)) (by decide))), rfl, fun q => absurd q b_57⟩
    · have e3 : (if fnN G (kI T r_193.1) = -1 then fl T 2 r_194 else r_194) = r_194 := by
        by_cases hk : kK T r_193.1 = 18
        · have hz := hv_z_195 (by unfold isW; rw [e_r_194, ck_1]; omega)
          rw [show r_194.1 = r_193.1 from by rw [e_r_194]; exact ck_1] at hz
          rw [if_neg (by omega)]
        · have hn : fl T 2 r_194 = r_194 := by rw [e_r_194]; exact ck_n i_r_193.1 hk
          rw [hn]; split <;> rfl
      have hl : lUse T r G = (r_202, gLine G 14 ((gL G (fnN G (kI T r_193.1)).toNat : Nat) : Int) (sV T r_197) (sV T r_199) 0) := by
        unfold lUse
        dsimp only
        rw [← e_r_193, ← e_r_194, e3, ← e_r_196, ← e_r_197, ← e_r_199, ← e_r_201, ← e_r_202]
      rw [hl]
      have q57 : r_202.2 = 0 := by omega
      have f_r_202 := rK_0 (k := 59) hT o_r_201 (by omega) (by rw [← e_r_202]; exact q57)
      have f_r_201 := rS_0 hT o_r_199 (by rw [← e_r_201]; exact f_r_202.1)
      have v_z_200 := hv_z_200 (by rw [← e_r_201]; exact f_r_202.1)
      have f_r_199 := rS_0 hT o_r_197 (by rw [← e_r_199]; exact f_r_201.1)
      have v_z_198 := hv_z_198 (by rw [← e_r_199]; exact f_r_201.1)
      have f_r_197 := rK_0 (k := 17) hT o_r_196 (by omega) (by rw [← e_r_197]; exact f_r_199.1)
      have f_r_196 : r_194.2 = 0 := av_0 (by rw [← e_r_196]; exact f_r_197.1)
      have hck := ck_0 i_r_193.1 (by rw [← e_r_194]; exact f_r_196)
      have hz := hv_z_195 (by unfold isW; rw [e_r_194, ck_1]; omega)
      rw [show r_194.1 = r_193.1 from by rw [e_r_194]; exact ck_1] at hz
      have hfr := fnd_r (nm := gN G) (x := kI T r_193.1) (gT G) 0
      have hzt : 0 ≤ z_195 ∧ z_195 < (gT G : Int) := by rcases hfr with ⟨g1, -⟩ | ⟨j, g1, g2, -, g3⟩; (exfalso; have : fnN G (kI T r_193.1) = -1 := g1; omega); (have : fnN G (kI T r_193.1) = (j : Int) := g3; omega)
      have hnl : (rM M1 r_202).2.1 17 (z_195).toNat = ((gL G (z_195).toNat : Nat) : Int) := by rw [rM_c (by decide), h1]; exact (hG.2.2.2.2.1 (z_195).toNat (Or.inl (by omega))).2
      refine r_aload0 (pc2 := 61) dX4_readUse_60 rfl ?_
      refine r_iload1 (pc2 := 62) dX4_readUse_61 rfl ?_
      refine r_aload0 (pc2 := 63) dX4_readUse_62 rfl ?_
      refine r_getR (pc2 := 66) dX4_readUse_63 rfl fX4_34 (hK_9 hS_M1) (hR_9_8 hS_M1) ?_
      refine r_iload2 (pc2 := 67) dX4_readUse_66 rfl ?_
      refine r_iald (z := ((gL G (z_195).toNat : Nat) : Int)) (pc2 := 68) dX4_readUse_67 rfl (hK_17 hS_M1) (z_195).toNat (by omega) (by omega) hnl ?_
      refine r_iload3 (pc2 := 69) dX4_readUse_68 rfl ?_
      refine r_iload4 (pc2 := 71) dX4_readUse_69 rfl ?_
      refine r_iconst (pc2 := 72) dX4_readUse_71 rfl ?_
      refine r_cv5 (pc2 := 75) dX4_readUse_72 rfl vX4_118 (hK_9 hS_M1) (by decide) (c_X4_write (d := d + 3) (M := rM M1 r_202) (i := (gS G)) (x := ((gL G (z_195).toNat : Nat) : Int)) (y := z_198) (z := z_200) (w := 0) hS_M1 (by omega)) ?_
      rintro _ M9 ⟨rfl, h9⟩
      rw [rM_o (by omega), rM_o (by omega), rM_o (by omega), rM_o (by omega)] at h9
      obtain ⟨W203, h_W203⟩ : ∃ x, x = pI (pI (pI (pI M1 12 (gS G) ((gL G (z_195).toNat : Nat) : Int)) 13 (gS G) z_198) 14 (gS G) z_200) 15 (gS G) 0 := ⟨_, rfl⟩
      rw [← h_W203] at h9
      rw [h9]
      have hS_W203 : sOk W203.1 := by rw [h_W203]; exact hS_M1
      have hC_W203 : cT W203 T := by rw [h_W203]; exact hC_M1
      show Go (Ct (d + 4)) _ yX4_readUse cX4_readUse none 0 0 75 [some (.ref 9), some (.int (iI ((gS G : Nat) : Int))), some (.int (iI z_195)), some (.int (iI z_198)), some (.int (iI z_200))] [] (rM W203 r_202)
      refine r_ret dX4_readUse_75 rfl ?_
      refine ⟨rfl, (by rw [h_W203, h1]; exact (fr.I (fr.I (fr.I (fr.I (fr.I (fr.I (fr.I (fr.I (fr.I fr.rf (by decide)) (by decide)) (by decide)) (by decide)) (by decide)) (by decide)) (by decide)) (by decide)) (by decide))), rfl, fun _ => ⟨rfl, ?_⟩⟩
      rw [h_W203, h1, ← hz, v_z_198, v_z_200]
      exact (CG.line hG hg).r
  · refine r_aload0 (pc2 := 22) dX4_readUse_21 rfl ?_
    refine r_iconst (pc2 := 23) dX4_readUse_22 rfl ?_
    refine r_cv1 (pc2 := 26) dX4_readUse_23 rfl vX4_104 (hK_9 hS_M1) (by decide) (c_X4_fail (d := d + 3) (M := M1) (r := r_194) (w := 2) hS_M1 hT hC_M1 o_r_194 (by omega)) ?_
    rintro _ M9 ⟨rfl, h9⟩
    obtain ⟨r_204, e_r_204⟩ : ∃ x, x = fl T 2 r_194 := ⟨_, rfl⟩
    rw [← e_r_204] at h9
    rw [h9]
    have o_r_204 : rOk T r_204 := by rw [e_r_204]; exact o_r_194.f hT (by omega) (by omega)
    have i_r_204 := o_r_204.2
    show Go (Ct (d + 4)) _ yX4_readUse cX4_readUse none 0 0 26 [some (.ref 9), some (.int (iI ((gS G : Nat) : Int))), some (.int (iI z_195)), none, none] [] (rM M1 r_204)
    refine r_aload0 (pc2 := 27) dX4_readUse_26 rfl ?_
    refine r_cv0 (pc2 := 30) dX4_readUse_27 rfl vX4_108 (hK_9 hS_M1) (by decide) (c_X4_advance (d := d + 3) (M := M1) (r := r_204) hS_M1 hT hC_M1 o_r_204) ?_
    rintro _ M9 ⟨rfl, h9⟩
    obtain ⟨r_205, e_r_205⟩ : ∃ x, x = av T r_204 := ⟨_, rfl⟩
    rw [← e_r_205] at h9
    rw [h9]
    have o_r_205 : rOk T r_205 := by rw [e_r_205]; exact o_r_204.a
    have i_r_205 := o_r_205.2
    show Go (Ct (d + 4)) _ yX4_readUse cX4_readUse none 0 0 30 [some (.ref 9), some (.int (iI ((gS G : Nat) : Int))), some (.int (iI z_195)), none, none] [] (rM M1 r_205)
    refine r_aload0 (pc2 := 31) dX4_readUse_30 rfl ?_
    refine r_bipush (pc2 := 33) dX4_readUse_31 rfl (by decide) (by decide) ?_
    refine r_cv1 (pc2 := 36) dX4_readUse_33 rfl vX4_115 (hK_9 hS_M1) (by decide) (c_X4_readKind (d := d + 2) (M := M1) (r := r_205) (k := 17) hS_M1 hT hC_M1 o_r_205 ⟨by omega, by omega⟩) ?_
    rintro _ M9 ⟨rfl, h9⟩
    obtain ⟨r_206, e_r_206⟩ : ∃ x, x = rK T 17 r_205 := ⟨_, rfl⟩
    rw [← e_r_206] at h9
    rw [h9]
    have o_r_206 : rOk T r_206 := by rw [e_r_206]; exact o_r_205.K hT
    have i_r_206 := o_r_206.2
    show Go (Ct (d + 4)) _ yX4_readUse cX4_readUse none 0 0 36 [some (.ref 9), some (.int (iI ((gS G : Nat) : Int))), some (.int (iI z_195)), none, none] [] (rM M1 r_206)
    refine r_aload0 (pc2 := 37) dX4_readUse_36 rfl ?_
    refine r_cv0 (pc2 := 40) dX4_readUse_37 rfl vX4_125 (hK_9 hS_M1) (by decide) (c_X4_readShift (d := d + 1) (M := M1) (r := r_206) hS_M1 hT hC_M1 o_r_206) ?_
    rintro _ M9 ⟨z_207, hz_z_207, rfl, h9, hv_z_207⟩
    obtain ⟨z_2071, z_2072⟩ := hz_z_207
    obtain ⟨r_208, e_r_208⟩ : ∃ x, x = rS T r_206 := ⟨_, rfl⟩
    rw [← e_r_208] at h9
    rw [h9]
    have o_r_208 : rOk T r_208 := by rw [e_r_208]; exact o_r_206.S hT
    have i_r_208 := o_r_208.2
    show Go (Ct (d + 4)) _ yX4_readUse cX4_readUse none 0 0 40 [some (.ref 9), some (.int (iI ((gS G : Nat) : Int))), some (.int (iI z_195)), none, none] [.int (iI z_207)] (rM M1 r_208)
    refine r_istore3 (pc2 := 41) dX4_readUse_40 rfl rfl ?_
    refine r_aload0 (pc2 := 42) dX4_readUse_41 rfl ?_
    refine r_cv0 (pc2 := 45) dX4_readUse_42 rfl vX4_125 (hK_9 hS_M1) (by decide) (c_X4_readShift (d := d + 1) (M := M1) (r := r_208) hS_M1 hT hC_M1 o_r_208) ?_
    rintro _ M9 ⟨z_209, hz_z_209, rfl, h9, hv_z_209⟩
    obtain ⟨z_2091, z_2092⟩ := hz_z_209
    obtain ⟨r_210, e_r_210⟩ : ∃ x, x = rS T r_208 := ⟨_, rfl⟩
    rw [← e_r_210] at h9
    rw [h9]
    have o_r_210 : rOk T r_210 := by rw [e_r_210]; exact o_r_208.S hT
    have i_r_210 := o_r_210.2
    show Go (Ct (d + 4)) _ yX4_readUse cX4_readUse none 0 0 45 [some (.ref 9), some (.int (iI ((gS G : Nat) : Int))), some (.int (iI z_195)), some (.int (iI z_207)), none] [.int (iI z_209)] (rM M1 r_210)
    refine r_istore4 (pc2 := 47) dX4_readUse_45 rfl rfl ?_
    refine r_aload0 (pc2 := 48) dX4_readUse_47 rfl ?_
    refine r_bipush (pc2 := 50) dX4_readUse_48 rfl (by decide) (by decide) ?_
    refine r_cv1 (pc2 := 53) dX4_readUse_50 rfl vX4_115 (hK_9 hS_M1) (by decide) (c_X4_readKind (d := d + 2) (M := M1) (r := r_210) (k := 59) hS_M1 hT hC_M1 o_r_210 ⟨by omega, by omega⟩) ?_
    rintro _ M9 ⟨rfl, h9⟩
    obtain ⟨r_211, e_r_211⟩ : ∃ x, x = rK T 59 r_210 := ⟨_, rfl⟩
    rw [← e_r_211] at h9
    rw [h9]
    have o_r_211 : rOk T r_211 := by rw [e_r_211]; exact o_r_210.K hT
    have i_r_211 := o_r_211.2
    show Go (Ct (d + 4)) _ yX4_readUse cX4_readUse none 0 0 53 [some (.ref 9), some (.int (iI ((gS G : Nat) : Int))), some (.int (iI z_195)), some (.int (iI z_207)), some (.int (iI z_209))] [] (rM M1 r_211)
    refine r_aload0 (pc2 := 54) dX4_readUse_53 rfl ?_
    refine r_getI (z := r_211.2) (pc2 := 57) dX4_readUse_54 rfl (Or.inl fX4_57) (hK_9 hS_M1) rM_f ?_
    refine r_ifne (tgt := 75) (pc2 := 60) dX4_readUse_57 rfl (by decide) ⟨by omega, by omega⟩ (fun b_57 => ?_) (fun b_57 => ?_)
    · refine r_ret dX4_readUse_75 rfl ?_
      have e3 : (if fnN G (kI T r_193.1) = -1 then fl T 2 r_194 else r_194) = r_204 := by
        by_cases hk : kK T r_193.1 = 18
        · have hz := hv_z_195 (by unfold isW; rw [e_r_194, ck_1]; omega)
          rw [show r_194.1 = r_193.1 from by rw [e_r_194]; exact ck_1] at hz
          rw [if_pos (by omega), e_r_204]
        · have hn : fl T 2 r_194 = r_194 := by rw [e_r_194]; exact ck_n i_r_193.1 hk
          rw [e_r_204, hn]; split <;> rfl
      have hl : lUse T r G = (r_211, gLine G 14 ((gL G (fnN G (kI T r_193.1)).toNat : Nat) : Int) (sV T r_206) (sV T r_208) 0) := by
        unfold lUse
        dsimp only
        rw [← e_r_193, ← e_r_194, e3, ← e_r_205, ← e_r_206, ← e_r_208, ← e_r_210, ← e_r_211]
      rw [hl]
      refine ⟨rfl, (by rw [h1]; exact (fr.I (fr.I (fr.I (fr.I (fr.I fr.rf (by decide)) (by decide)) (by decide)) (by decide)) (by decide))), rfl, fun q => absurd q b_57⟩
    · have e3 : (if fnN G (kI T r_193.1) = -1 then fl T 2 r_194 else r_194) = r_204 := by
        by_cases hk : kK T r_193.1 = 18
        · have hz := hv_z_195 (by unfold isW; rw [e_r_194, ck_1]; omega)
          rw [show r_194.1 = r_193.1 from by rw [e_r_194]; exact ck_1] at hz
          rw [if_pos (by omega), e_r_204]
        · have hn : fl T 2 r_194 = r_194 := by rw [e_r_194]; exact ck_n i_r_193.1 hk
          rw [e_r_204, hn]; split <;> rfl
      have hl : lUse T r G = (r_211, gLine G 14 ((gL G (fnN G (kI T r_193.1)).toNat : Nat) : Int) (sV T r_206) (sV T r_208) 0) := by
        unfold lUse
        dsimp only
        rw [← e_r_193, ← e_r_194, e3, ← e_r_205, ← e_r_206, ← e_r_208, ← e_r_210, ← e_r_211]
      rw [hl]
      have q57 : r_211.2 = 0 := by omega
      have f_r_211 := rK_0 (k := 59) hT o_r_210 (by omega) (by rw [← e_r_211]; exact q57)
      have f_r_210 := rS_0 hT o_r_208 (by rw [← e_r_210]; exact f_r_211.1)
      have v_z_209 := hv_z_209 (by rw [← e_r_210]; exact f_r_211.1)
      have f_r_208 := rS_0 hT o_r_206 (by rw [← e_r_208]; exact f_r_210.1)
      have v_z_207 := hv_z_207 (by rw [← e_r_208]; exact f_r_210.1)
      have f_r_206 := rK_0 (k := 17) hT o_r_205 (by omega) (by rw [← e_r_206]; exact f_r_208.1)
      have f_r_205 : r_204.2 = 0 := av_0 (by rw [← e_r_205]; exact f_r_206.1)
      exact absurd (show (fl T 2 r_194).2 = 0 from by rw [← e_r_204]; exact f_r_205) (fl_f (by omega) i_r_194.1)
theorem CG.let {M : pM} {G : gPr} {x : Nat} {RR : rdT} (h : CG M G) (hg : gOk G) (hd0 : gD G = 0) : CG (rM (pI (pI (pI (pJ (pI (pI (pI M 10 (gS G) 13) 11 (gS G) (((gS G + 1 : Nat)) : Int)) 9 11 (((gS G + 1 : Nat)) : Int)) 16 (gT G) (lN x)) 17 (gT G) ((gS G : Nat) : Int)) 18 (gD G) ((gS G : Nat) : Int)) 9 13 (((gD G + 1 : Nat)) : Int)) RR) (gOpen (gName (gLine G 13 0 0 0 0) x (gS G)) (gS G)) := by
  obtain ⟨h1, h2, h3, h4, h5, h6⟩ := h
  refine ⟨rfl, h2, rfl, fun i hi => ?_, fun k hk => ?_, fun j hj => ?_⟩
  · have hi : i < gS G + 1 := hi
    show va_up (M.2.1 10) (gS G) 13 i = va_up (gA G) (gS G) 13 i ∧ va_up (M.2.1 11) (gS G) _ i = va_up (gE G) (gS G) _ i ∧ (¬ va_up (gA G) (gS G) 13 i = 13 → M.2.1 12 i = va_up (g1 G) (gS G) 0 i ∧ M.2.1 13 i = va_up (g2 G) (gS G) 0 i ∧ M.2.1 14 i = va_up (g3 G) (gS G) 0 i ∧ M.2.1 15 i = va_up (g4 G) (gS G) 0 i)
    by_cases e : i = gS G
    · subst e
      rw [up_at, up_at, up_at, up_at]
      exact ⟨rfl, rfl, fun q => absurd rfl q⟩
    · rw [up_ne e, up_ne e, up_ne e, up_ne e, up_ne e, up_ne e, up_ne e, up_ne e]
      exact h4 i (by omega)
  · show va_up (M.2.2 16) (gT G) (lN x) k = lN (va_up (gN G) (gT G) x k) ∧ va_up (M.2.1 17) (gT G) _ k = ((va_up (gL G) (gT G) (gS G) k : Nat) : Int)
    by_cases e : k = gT G
    · subst e; rw [up_at, up_at, up_at, up_at]; exact ⟨rfl, rfl⟩
    · rw [up_ne e, up_ne e, up_ne e, up_ne e]
      exact h5 k (Or.inl (hk.elim id (fun q => absurd q.2 e)))
  · have hj : j < gD G + 1 := hj
    show va_up (M.2.1 18) (gD G) _ j = ((va_up (gO G) (gD G) (gS G) j : Nat) : Int)
    obtain rfl : j = 0 := by omega
    rw [hd0, up_at, up_at]
set_option maxHeartbeats 4000000 in
theorem c_X4_readLet {d : Nat} {M : pM} {T : tD} {r : rdT} {G : gPr} (hS : sOk M.1) (hT : tOk T) (hC : cT M T) (o_r : rOk T r) (hr : r.2 = 0) (hG : CG M G) (hg : gOk G) (h125 : gS G < 125) : Ct (d + 5) 0 0 yX4_readLet [.ref 9] (rM M r) (fun v M2 => v = none ∧ cPo M M2 (lLet T r G)) := by
  refine ct_in (d := (d + 4)) kX4_readLet rfl (by decide) (Nat.le_of_ble_eq_true rfl) (by decide) ?_
  show Go (Ct (d + 4)) _ yX4_readLet cX4_readLet none 0 0 0 [some (.ref 9), none] [] (rM M r)
  have hT1 := hT.1
  have i_r := o_r.2
  have hg1 := hg.1
  have hg2 := hg.2.1
  have hg3 := hg.2.2.1
  refine r_aload0 (pc2 := 1) dX4_readLet_0 rfl ?_
  refine r_cv0 (pc2 := 4) dX4_readLet_1 rfl vX4_131 (hK_9 hS) (by decide) (c_X4_checkOutside (d := d + 2) (M := M) (r := r) (G := G) hS hT hC o_r hG hg) ?_
  rintro _ M9 ⟨rfl, h9⟩
  obtain ⟨r_212, e_r_212⟩ : ∃ x, x = cOu T r G := ⟨_, rfl⟩
  rw [← e_r_212] at h9
  rw [h9]
  have o_r_212 : rOk T r_212 := by rw [e_r_212]; exact rOk_cOu hT o_r
  have i_r_212 := o_r_212.2
  show Go (Ct (d + 4)) _ yX4_readLet cX4_readLet none 0 0 4 [some (.ref 9), none] [] (rM M r_212)
  refine r_aload0 (pc2 := 5) dX4_readLet_4 rfl ?_
  refine r_getI (z := ((gT G : Nat) : Int)) (pc2 := 8) dX4_readLet_5 rfl (Or.inl fX4_51) (hK_9 hS) hG.2.1 ?_
  refine r_bipush (pc2 := 10) dX4_readLet_8 rfl (by decide) (by decide) ?_
  refine r_iclt (tgt := 18) (pc2 := 13) dX4_readLet_10 rfl (by decide) ⟨by omega, by omega⟩ ⟨by omega, by omega⟩ (fun b_10 => ?_) (fun b_10 => ?_)
  · refine r_aload0 (pc2 := 19) dX4_readLet_18 rfl ?_
    refine r_bipush (pc2 := 21) dX4_readLet_19 rfl (by decide) (by decide) ?_
    refine r_cv1 (pc2 := 24) dX4_readLet_21 rfl vX4_100 (hK_9 hS) (by decide) (c_X4_bg (d := d + 2) (M := M) (r := r_212) (G := G) (a := 13) hS hT hC o_r_212 hG hg h125) ?_
    rintro _ M9 (⟨hf_r_213, rfl, h9⟩ | ⟨hf_r_213, rfl, h9⟩)
    · obtain ⟨r_213, e_r_213⟩ : ∃ x, x = av T r_212 := ⟨_, rfl⟩
      rw [← e_r_213] at h9
      obtain ⟨M1, h1⟩ : ∃ x, x = pI (pI (pI M 10 (gS G) 13) 11 (gS G) (((gS G + 1 : Nat)) : Int)) 9 11 (((gS G + 1 : Nat)) : Int) := ⟨_, rfl⟩
      rw [← h1] at h9
      rw [h9]
      have o_r_213 : rOk T r_213 := by rw [e_r_213]; exact o_r_212.a
      have i_r_213 := o_r_213.2
      have hS_M1 : sOk M1.1 := by rw [h1]; exact hS
      have hC_M1 : cT M1 T := by rw [h1]; exact hC
      show Go (Ct (d + 4)) _ yX4_readLet cX4_readLet none 0 0 24 [some (.ref 9), none] [.int (iI ((gS G : Nat) : Int))] (rM M1 r_213)
      refine r_istore1 (pc2 := 25) dX4_readLet_24 rfl rfl ?_
      refine r_aload0 (pc2 := 26) dX4_readLet_25 rfl ?_
      refine r_cv0 (pc2 := 29) dX4_readLet_26 rfl vX4_134 (hK_9 hS_M1) (by decide) (c_X4_checkName (d := d + 2) (M := M1) (r := r_213) hS_M1 hT hC_M1 o_r_213) ?_
      rintro _ M9 ⟨rfl, h9⟩
      obtain ⟨r_214, e_r_214⟩ : ∃ x, x = if kK T r_213.1 = 18 then r_213 else fl T 1 r_213 := ⟨_, rfl⟩
      rw [← e_r_214] at h9
      rw [h9]
      have o_r_214 : rOk T r_214 := by rw [e_r_214]; exact rOk_ck hT o_r_213
      have i_r_214 := o_r_214.2
      show Go (Ct (d + 4)) _ yX4_readLet cX4_readLet none 0 0 29 [some (.ref 9), some (.int (iI ((gS G : Nat) : Int)))] [] (rM M1 r_214)
      refine r_aload0 (pc2 := 30) dX4_readLet_29 rfl ?_
      refine r_cv0 (pc2 := 33) dX4_readLet_30 rfl vX4_137 (hK_9 hS_M1) (by decide) (c_X4_nameAtHand (d := d + 3) (M := M1) (r := r_214) (G := G) hS_M1 hT hC_M1 o_r_214 (by rw [h1]; exact hG.2.1) (fun k hk => by rw [h1]; exact (hG.2.2.2.2.1 k (Or.inl hk)).1) hg) ?_
      rintro _ M9 ⟨z_215, z_2151, z_2152, rfl, h9, hv_z_215⟩
      rw [h9]
      show Go (Ct (d + 4)) _ yX4_readLet cX4_readLet none 0 0 33 [some (.ref 9), some (.int (iI ((gS G : Nat) : Int)))] [.int (iI z_215)] (rM M1 r_214)
      refine r_iconst (pc2 := 34) dX4_readLet_33 rfl ?_
      refine r_iceq (tgt := 42) (pc2 := 37) dX4_readLet_34 rfl (by decide) ⟨by omega, by omega⟩ ⟨by omega, by omega⟩ (fun b_34 => ?_) (fun b_34 => ?_)
      · refine r_aload0 (pc2 := 43) dX4_readLet_42 rfl ?_
        refine r_getI (z := r_214.2) (pc2 := 46) dX4_readLet_43 rfl (Or.inl fX4_57) (hK_9 hS_M1) rM_f ?_
        refine r_ifne (tgt := 80) (pc2 := 49) dX4_readLet_46 rfl (by decide) ⟨by omega, by omega⟩ (fun b_46 => ?_) (fun b_46 => ?_)
        · have c30 : ¬ 30 ≤ gT G := by omega
          have e3 : (if fnN G (kI T r_213.1) = -1 then r_214 else fl T 3 r_214) = r_214 := by
            by_cases hk : kK T r_213.1 = 18
            · have hz := hv_z_215 (by unfold isW; rw [e_r_214, ck_1]; omega)
              rw [show r_214.1 = r_213.1 from by rw [e_r_214]; exact ck_1] at hz
              rw [if_pos (by omega)]
            · have hn : fl T 3 r_214 = r_214 := by rw [e_r_214]; exact ck_n i_r_213.1 hk
              rw [hn]; split <;> rfl
          refine r_aload0 (pc2 := 81) dX4_readLet_80 rfl ?_
          refine r_cv0 (pc2 := 84) dX4_readLet_81 rfl vX4_108 (hK_9 hS_M1) (by decide) (c_X4_advance (d := d + 3) (M := M1) (r := r_214) hS_M1 hT hC_M1 o_r_214) ?_
          rintro _ M9 ⟨rfl, h9⟩
          obtain ⟨r_216, e_r_216⟩ : ∃ x, x = av T r_214 := ⟨_, rfl⟩
          rw [← e_r_216] at h9
          rw [h9]
          have o_r_216 : rOk T r_216 := by rw [e_r_216]; exact o_r_214.a
          have i_r_216 := o_r_216.2
          show Go (Ct (d + 4)) _ yX4_readLet cX4_readLet none 0 0 84 [some (.ref 9), some (.int (iI ((gS G : Nat) : Int)))] [] (rM M1 r_216)
          refine r_aload0 (pc2 := 85) dX4_readLet_84 rfl ?_
          refine r_iload1 (pc2 := 86) dX4_readLet_85 rfl ?_
          refine r_cv1 (pc2 := 89) dX4_readLet_86 rfl vX4_128 (hK_9 hS_M1) (by decide) (c_X4_readOpen (d := d + 1) (M := M1) (r := r_216) (G := G) (i := ((gS G : Nat) : Int)) hS_M1 hT hC_M1 o_r_216 (by rw [h1]; exact hG.2.2.1) hg3 (fun q7 => by have q8 := rK_0 (k := 40) hT o_r_216 (by omega) q7; first | omega | (exact absurd q8.1 (by rw [e_r_216, av_2]; assumption)))) ?_
          rintro _ M9 ⟨rfl, ⟨hf9, h9⟩ | ⟨hf9, h9⟩⟩
          · obtain ⟨r_217, e_r_217⟩ : ∃ x, x = rK T 40 r_216 := ⟨_, rfl⟩
            rw [← e_r_217] at h9 hf9
            obtain ⟨W218, h_W218⟩ : ∃ x, x = pI (pI M1 18 (gD G) ((gS G : Nat) : Int)) 9 13 (((gD G + 1 : Nat)) : Int) := ⟨_, rfl⟩
            rw [← h_W218] at h9
            rw [h9]
            have o_r_217 : rOk T r_217 := by rw [e_r_217]; exact o_r_216.K hT
            have i_r_217 := o_r_217.2
            show Go (Ct (d + 4)) _ yX4_readLet cX4_readLet none 0 0 89 [some (.ref 9), some (.int (iI ((gS G : Nat) : Int)))] [] (rM W218 r_217)
            refine r_ret dX4_readLet_89 rfl ?_
            have hl : lLet T r G = (r_217, gOpen (gName (gLine G 13 0 0 0 0) (kI T r_213.1) (gS G)) (gS G)) := by
              unfold lLet
              dsimp only
              rw [← e_r_212, if_neg c30, ← e_r_213, ← e_r_214, e3, ← e_r_216, ← e_r_217]
            rw [hl]
            refine ⟨rfl, (by rw [h_W218, h1]; exact (fr.I (fr.I (fr.I (fr.I (fr.I (fr.I (fr.I fr.rf (by decide)) (by decide)) (by decide)) (by decide)) (by decide)) (by decide)) (by decide))), rfl, fun q => ?_⟩
            have f_r_217 := rK_0 (k := 40) hT o_r_216 (by omega) (by rw [← e_r_217]; exact q)
            have f_r_216 : r_214.2 = 0 := av_0 (by rw [← e_r_216]; exact f_r_217.1)
            exact absurd (f_r_216) b_46
          · obtain ⟨r_217, e_r_217⟩ : ∃ x, x = rK T 40 r_216 := ⟨_, rfl⟩
            rw [← e_r_217] at h9 hf9
            rw [h9]
            have o_r_217 : rOk T r_217 := by rw [e_r_217]; exact o_r_216.K hT
            have i_r_217 := o_r_217.2
            show Go (Ct (d + 4)) _ yX4_readLet cX4_readLet none 0 0 89 [some (.ref 9), some (.int (iI ((gS G : Nat) : Int)))] [] (rM M1 r_217)
            refine r_ret dX4_readLet_89 rfl ?_
            have hl : lLet T r G = (r_217, gOpen (gName (gLine G 13 0 0 0 0) (kI T r_213.1) (gS G)) (gS G)) := by
              unfold lLet
              dsimp only
              rw [← e_r_212, if_neg c30, ← e_r_213, ← e_r_214, e3, ← e_r_216, ← e_r_217]
            rw [hl]
            refine ⟨rfl, (by rw [h1]; exact (fr.I (fr.I (fr.I (fr.I (fr.I fr.rf (by decide)) (by decide)) (by decide)) (by decide)) (by decide))), rfl, fun q => ?_⟩
            exact absurd q hf9
        · have c30 : ¬ 30 ≤ gT G := by omega
          have e3 : (if fnN G (kI T r_213.1) = -1 then r_214 else fl T 3 r_214) = r_214 := by
            by_cases hk : kK T r_213.1 = 18
            · have hz := hv_z_215 (by unfold isW; rw [e_r_214, ck_1]; omega)
              rw [show r_214.1 = r_213.1 from by rw [e_r_214]; exact ck_1] at hz
              rw [if_pos (by omega)]
            · have hn : fl T 3 r_214 = r_214 := by rw [e_r_214]; exact ck_n i_r_213.1 hk
              rw [hn]; split <;> rfl
          have q46 : r_214.2 = 0 := by omega
          have hck := ck_0 i_r_213.1 (by rw [← e_r_214]; exact q46)
          have hd0 : gD G = 0 := (cOu_0 o_r (by rw [← e_r_212]; exact hf_r_213)).1
          have e21 : r_214.1 = r_213.1 := by rw [e_r_214]; exact ck_1
          have hlt := K_lt hT o_r_213.1 (by omega)
          have hvl : (rM M1 r_214).2.2 8 r_214.1 = lN (kI T r_213.1) := by rw [e21]; show M1.2.2 8 _ = _; exact hC_M1.2.2.2 _ hlt (by unfold isW; omega)
          have gtm : (rM M1 r_214).2.1 9 12 = ((gT G : Nat) : Int) := by rw [rM_9 (by decide) (by decide), h1]; exact hG.2.1
          refine r_aload0 (pc2 := 50) dX4_readLet_49 rfl ?_
          refine r_getR (pc2 := 53) dX4_readLet_50 rfl fX4_30 (hK_9 hS_M1) (hR_9_7 hS_M1) ?_
          refine r_aload0 (pc2 := 54) dX4_readLet_53 rfl ?_
          refine r_getI (z := ((gT G : Nat) : Int)) (pc2 := 57) dX4_readLet_54 rfl (Or.inl fX4_51) (hK_9 hS_M1) gtm ?_
          refine r_aload0 (pc2 := 58) dX4_readLet_57 rfl ?_
          refine r_getR (pc2 := 61) dX4_readLet_58 rfl fX4_40 (hK_9 hS_M1) (hR_9_0 hS_M1) ?_
          refine r_getR (pc2 := 64) dX4_readLet_61 rfl fX4_140 (hK_3 hS_M1) (hR_3_4 hS_M1) ?_
          refine r_aload0 (pc2 := 65) dX4_readLet_64 rfl ?_
          refine r_getI (z := ((r_214.1 : Nat) : Int)) (pc2 := 68) dX4_readLet_65 rfl (Or.inl fX4_44) (hK_9 hS_M1) rM_t ?_
          refine r_lald (z := (lN (kI T r_213.1))) (pc2 := 69) dX4_readLet_68 rfl (hK_8 hS_M1) (r_214.1) rfl (by omega) hvl ?_
          refine r_last (pc2 := 70) dX4_readLet_69 rfl (hK_16 hS_M1) (by decide) (gT G) rfl (by omega) ?_
          refine r_aload0 (pc2 := 71) dX4_readLet_70 rfl ?_
          refine r_getR (pc2 := 74) dX4_readLet_71 rfl fX4_34 (hK_9 hS_M1) (hR_9_8 hS_M1) ?_
          refine r_aload0 (pc2 := 75) dX4_readLet_74 rfl ?_
          refine r_getI (z := ((gT G : Nat) : Int)) (pc2 := 78) dX4_readLet_75 rfl (Or.inl fX4_51) (hK_9 hS_M1) gtm ?_
          refine r_iload1 (pc2 := 79) dX4_readLet_78 rfl ?_
          refine r_iast (z := ((gS G : Nat) : Int)) (pc2 := 80) dX4_readLet_79 rfl (hK_17 hS_M1) (by decide) (gT G) rfl (by omega) ?_
          rw [rM_J, rM_o (by omega)]
          obtain ⟨Wn, h_Wn⟩ : ∃ x, x = pI (pJ M1 16 (gT G) (lN (kI T r_213.1))) 17 (gT G) ((gS G : Nat) : Int) := ⟨_, rfl⟩
          rw [← h_Wn]
          have hS_Wn : sOk Wn.1 := by rw [h_Wn]; exact hS_M1
          have hC_Wn : cT Wn T := by rw [h_Wn]; exact hC_M1
          refine r_aload0 (pc2 := 81) dX4_readLet_80 rfl ?_
          refine r_cv0 (pc2 := 84) dX4_readLet_81 rfl vX4_108 (hK_9 hS_Wn) (by decide) (c_X4_advance (d := d + 3) (M := Wn) (r := r_214) hS_Wn hT hC_Wn o_r_214) ?_
          rintro _ M9 ⟨rfl, h9⟩
          obtain ⟨r_219, e_r_219⟩ : ∃ x, x = av T r_214 := ⟨_, rfl⟩
          rw [← e_r_219] at h9
          rw [h9]
          have o_r_219 : rOk T r_219 := by rw [e_r_219]; exact o_r_214.a
          have i_r_219 := o_r_219.2
          show Go (Ct (d + 4)) _ yX4_readLet cX4_readLet none 0 0 84 [some (.ref 9), some (.int (iI ((gS G : Nat) : Int)))] [] (rM Wn r_219)
          refine r_aload0 (pc2 := 85) dX4_readLet_84 rfl ?_
          refine r_iload1 (pc2 := 86) dX4_readLet_85 rfl ?_
          refine r_cv1 (pc2 := 89) dX4_readLet_86 rfl vX4_128 (hK_9 hS_Wn) (by decide) (c_X4_readOpen (d := d + 1) (M := Wn) (r := r_219) (G := G) (i := ((gS G : Nat) : Int)) hS_Wn hT hC_Wn o_r_219 (by rw [h_Wn, h1]; exact hG.2.2.1) hg3 (fun q7 => by have q8 := rK_0 (k := 40) hT o_r_219 (by omega) q7; first | omega | (exact absurd q8.1 (by rw [e_r_219, av_2]; assumption)))) ?_
          rintro _ M9 ⟨rfl, ⟨hf9, h9⟩ | ⟨hf9, h9⟩⟩
          · obtain ⟨r_220, e_r_220⟩ : ∃ x, x = rK T 40 r_219 := ⟨_, rfl⟩
            rw [← e_r_220] at h9 hf9
            obtain ⟨W221, h_W221⟩ : ∃ x, x = pI (pI Wn 18 (gD G) ((gS G : Nat) : Int)) 9 13 (((gD G + 1 : Nat)) : Int) := ⟨_, rfl⟩
            rw [← h_W221] at h9
            rw [h9]
            have o_r_220 : rOk T r_220 := by rw [e_r_220]; exact o_r_219.K hT
            have i_r_220 := o_r_220.2
            show Go (Ct (d + 4)) _ yX4_readLet cX4_readLet none 0 0 89 [some (.ref 9), some (.int (iI ((gS G : Nat) : Int)))] [] (rM W221 r_220)
            refine r_ret dX4_readLet_89 rfl ?_
            have hl : lLet T r G = (r_220, gOpen (gName (gLine G 13 0 0 0 0) (kI T r_213.1) (gS G)) (gS G)) := by
              unfold lLet
              dsimp only
              rw [← e_r_212, if_neg c30, ← e_r_213, ← e_r_214, e3, ← e_r_219, ← e_r_220]
            rw [hl]
            refine ⟨rfl, (by rw [h_W221, h_Wn, h1]; exact (fr.I (fr.I (fr.I (fr.I (fr.I (fr.J (fr.I (fr.I (fr.I fr.rf (by decide)) (by decide)) (by decide)) (by decide)) (by decide)) (by decide)) (by decide)) (by decide)) (by decide))), rfl, fun q => ?_⟩
            refine ⟨rfl, ?_⟩
            rw [h_W221, h_Wn, h1]
            exact CG.let hG hg hd0
          · obtain ⟨r_220, e_r_220⟩ : ∃ x, x = rK T 40 r_219 := ⟨_, rfl⟩
            rw [← e_r_220] at h9 hf9
            rw [h9]
            have o_r_220 : rOk T r_220 := by rw [e_r_220]; exact o_r_219.K hT
            have i_r_220 := o_r_220.2
            show Go (Ct (d + 4)) _ yX4_readLet cX4_readLet none 0 0 89 [some (.ref 9), some (.int (iI ((gS G : Nat) : Int)))] [] (rM Wn r_220)
            refine r_ret dX4_readLet_89 rfl ?_
            have hl : lLet T r G = (r_220, gOpen (gName (gLine G 13 0 0 0 0) (kI T r_213.1) (gS G)) (gS G)) := by
              unfold lLet
              dsimp only
              rw [← e_r_212, if_neg c30, ← e_r_213, ← e_r_214, e3, ← e_r_219, ← e_r_220]
            rw [hl]
            refine ⟨rfl, (by rw [h_Wn, h1]; exact (fr.I (fr.I (fr.I (fr.J (fr.I (fr.I (fr.I fr.rf (by decide)) (by decide)) (by decide)) (by decide)) (by decide)) (by decide)) (by decide))), rfl, fun q => ?_⟩
            exact absurd q hf9
      · refine r_aload0 (pc2 := 38) dX4_readLet_37 rfl ?_
        refine r_iconst (pc2 := 39) dX4_readLet_38 rfl ?_
        refine r_cv1 (pc2 := 42) dX4_readLet_39 rfl vX4_104 (hK_9 hS_M1) (by decide) (c_X4_fail (d := d + 3) (M := M1) (r := r_214) (w := 3) hS_M1 hT hC_M1 o_r_214 (by omega)) ?_
        rintro _ M9 ⟨rfl, h9⟩
        obtain ⟨r_222, e_r_222⟩ : ∃ x, x = fl T 3 r_214 := ⟨_, rfl⟩
        rw [← e_r_222] at h9
        rw [h9]
        have o_r_222 : rOk T r_222 := by rw [e_r_222]; exact o_r_214.f hT (by omega) (by omega)
        have i_r_222 := o_r_222.2
        show Go (Ct (d + 4)) _ yX4_readLet cX4_readLet none 0 0 42 [some (.ref 9), some (.int (iI ((gS G : Nat) : Int)))] [] (rM M1 r_222)
        refine r_aload0 (pc2 := 43) dX4_readLet_42 rfl ?_
        refine r_getI (z := r_222.2) (pc2 := 46) dX4_readLet_43 rfl (Or.inl fX4_57) (hK_9 hS_M1) rM_f ?_
        refine r_ifne (tgt := 80) (pc2 := 49) dX4_readLet_46 rfl (by decide) ⟨by omega, by omega⟩ (fun b_46 => ?_) (fun b_46 => ?_)
        · have c30 : ¬ 30 ≤ gT G := by omega
          have e3 : (if fnN G (kI T r_213.1) = -1 then r_214 else fl T 3 r_214) = r_222 := by
            by_cases hk : kK T r_213.1 = 18
            · have hz := hv_z_215 (by unfold isW; rw [e_r_214, ck_1]; omega)
              rw [show r_214.1 = r_213.1 from by rw [e_r_214]; exact ck_1] at hz
              rw [if_neg (by omega), e_r_222]
            · have hn : fl T 3 r_214 = r_214 := by rw [e_r_214]; exact ck_n i_r_213.1 hk
              rw [e_r_222, hn]; split <;> rfl
          refine r_aload0 (pc2 := 81) dX4_readLet_80 rfl ?_
          refine r_cv0 (pc2 := 84) dX4_readLet_81 rfl vX4_108 (hK_9 hS_M1) (by decide) (c_X4_advance (d := d + 3) (M := M1) (r := r_222) hS_M1 hT hC_M1 o_r_222) ?_
          rintro _ M9 ⟨rfl, h9⟩
          obtain ⟨r_223, e_r_223⟩ : ∃ x, x = av T r_222 := ⟨_, rfl⟩
          rw [← e_r_223] at h9
          rw [h9]
          have o_r_223 : rOk T r_223 := by rw [e_r_223]; exact o_r_222.a
          have i_r_223 := o_r_223.2
          show Go (Ct (d + 4)) _ yX4_readLet cX4_readLet none 0 0 84 [some (.ref 9), some (.int (iI ((gS G : Nat) : Int)))] [] (rM M1 r_223)
          refine r_aload0 (pc2 := 85) dX4_readLet_84 rfl ?_
          refine r_iload1 (pc2 := 86) dX4_readLet_85 rfl ?_
          refine r_cv1 (pc2 := 89) dX4_readLet_86 rfl vX4_128 (hK_9 hS_M1) (by decide) (c_X4_readOpen (d := d + 1) (M := M1) (r := r_223) (G := G) (i := ((gS G : Nat) : Int)) hS_M1 hT hC_M1 o_r_223 (by rw [h1]; exact hG.2.2.1) hg3 (fun q7 => by have q8 := rK_0 (k := 40) hT o_r_223 (by omega) q7; first | omega | (exact absurd q8.1 (by rw [e_r_223, av_2]; assumption)))) ?_
          rintro _ M9 ⟨rfl, ⟨hf9, h9⟩ | ⟨hf9, h9⟩⟩
          · obtain ⟨r_224, e_r_224⟩ : ∃ x, x = rK T 40 r_223 := ⟨_, rfl⟩
            rw [← e_r_224] at h9 hf9
            obtain ⟨W225, h_W225⟩ : ∃ x, x = pI (pI M1 18 (gD G) ((gS G : Nat) : Int)) 9 13 (((gD G + 1 : Nat)) : Int) := ⟨_, rfl⟩
            rw [← h_W225] at h9
            rw [h9]
            have o_r_224 : rOk T r_224 := by rw [e_r_224]; exact o_r_223.K hT
            have i_r_224 := o_r_224.2
            show Go (Ct (d + 4)) _ yX4_readLet cX4_readLet none 0 0 89 [some (.ref 9), some (.int (iI ((gS G : Nat) : Int)))] [] (rM W225 r_224)
            refine r_ret dX4_readLet_89 rfl ?_
            have hl : lLet T r G = (r_224, gOpen (gName (gLine G 13 0 0 0 0) (kI T r_213.1) (gS G)) (gS G)) := by
              unfold lLet
              dsimp only
              rw [← e_r_212, if_neg c30, ← e_r_213, ← e_r_214, e3, ← e_r_223, ← e_r_224]
            rw [hl]
            refine ⟨rfl, (by rw [h_W225, h1]; exact (fr.I (fr.I (fr.I (fr.I (fr.I (fr.I (fr.I fr.rf (by decide)) (by decide)) (by decide)) (by decide)) (by decide)) (by decide)) (by decide))), rfl, fun q => ?_⟩
            have f_r_224 := rK_0 (k := 40) hT o_r_223 (by omega) (by rw [← e_r_224]; exact q)
            have f_r_223 : r_222.2 = 0 := av_0 (by rw [← e_r_223]; exact f_r_224.1)
            exact absurd (show (fl T 3 r_214).2 = 0 from by rw [← e_r_222]; exact f_r_223) (fl_f (by omega) i_r_214.1)
          · obtain ⟨r_224, e_r_224⟩ : ∃ x, x = rK T 40 r_223 := ⟨_, rfl⟩
            rw [← e_r_224] at h9 hf9
            rw [h9]
            have o_r_224 : rOk T r_224 := by rw [e_r_224]; exact o_r_223.K hT
            have i_r_224 := o_r_224.2
            show Go (Ct (d + 4)) _ yX4_readLet cX4_readLet none 0 0 89 [some (.ref 9), some (.int (iI ((gS G : Nat) : Int)))] [] (rM M1 r_224)
            refine r_ret dX4_readLet_89 rfl ?_
            have hl : lLet T r G = (r_224, gOpen (gName (gLine G 13 0 0 0 0) (kI T r_213.1) (gS G)) (gS G)) := by
              unfold lLet
              dsimp only
              rw [← e_r_212, if_neg c30, ← e_r_213, ← e_r_214, e3, ← e_r_223, ← e_r_224]
            rw [hl]
            refine ⟨rfl, (by rw [h1]; exact (fr.I (fr.I (fr.I (fr.I (fr.I fr.rf (by decide)) (by decide)) (by decide)) (by decide)) (by decide))), rfl, fun q => ?_⟩
            exact absurd q hf9
        · have c30 : ¬ 30 ≤ gT G := by omega
          have e3 : (if fnN G (kI T r_213.1) = -1 then r_214 else fl T 3 r_214) = r_222 := by
            by_cases hk : kK T r_213.1 = 18
            · have hz := hv_z_215 (by unfold isW; rw [e_r_214, ck_1]; omega)
              rw [show r_214.1 = r_213.1 from by rw [e_r_214]; exact ck_1] at hz
              rw [if_neg (by omega), e_r_222]
            · have hn : fl T 3 r_214 = r_214 := by rw [e_r_214]; exact ck_n i_r_213.1 hk
              rw [e_r_222, hn]; split <;> rfl
          have q46 : r_222.2 = 0 := by omega
          exact absurd (show (fl T 3 r_214).2 = 0 from by rw [← e_r_222]; exact q46) (fl_f (by omega) i_r_214.1)
    · obtain ⟨r_213, e_r_213⟩ : ∃ x, x = av T r_212 := ⟨_, rfl⟩
      rw [← e_r_213] at h9
      rw [h9]
      have o_r_213 : rOk T r_213 := by rw [e_r_213]; exact o_r_212.a
      have i_r_213 := o_r_213.2
      show Go (Ct (d + 4)) _ yX4_readLet cX4_readLet none 0 0 24 [some (.ref 9), none] [.int (iI 0)] (rM M r_213)
      refine r_istore1 (pc2 := 25) dX4_readLet_24 rfl rfl ?_
      refine r_aload0 (pc2 := 26) dX4_readLet_25 rfl ?_
      refine r_cv0 (pc2 := 29) dX4_readLet_26 rfl vX4_134 (hK_9 hS) (by decide) (c_X4_checkName (d := d + 2) (M := M) (r := r_213) hS hT hC o_r_213) ?_
      rintro _ M9 ⟨rfl, h9⟩
      obtain ⟨r_226, e_r_226⟩ : ∃ x, x = if kK T r_213.1 = 18 then r_213 else fl T 1 r_213 := ⟨_, rfl⟩
      rw [← e_r_226] at h9
      rw [h9]
      have o_r_226 : rOk T r_226 := by rw [e_r_226]; exact rOk_ck hT o_r_213
      have i_r_226 := o_r_226.2
      show Go (Ct (d + 4)) _ yX4_readLet cX4_readLet none 0 0 29 [some (.ref 9), some (.int (iI 0))] [] (rM M r_226)
      refine r_aload0 (pc2 := 30) dX4_readLet_29 rfl ?_
      refine r_cv0 (pc2 := 33) dX4_readLet_30 rfl vX4_137 (hK_9 hS) (by decide) (c_X4_nameAtHand (d := d + 3) (M := M) (r := r_226) (G := G) hS hT hC o_r_226 hG.2.1 (fun k hk => (hG.2.2.2.2.1 k (Or.inl hk)).1) hg) ?_
      rintro _ M9 ⟨z_227, z_2271, z_2272, rfl, h9, hv_z_227⟩
      rw [h9]
      show Go (Ct (d + 4)) _ yX4_readLet cX4_readLet none 0 0 33 [some (.ref 9), some (.int (iI 0))] [.int (iI z_227)] (rM M r_226)
      refine r_iconst (pc2 := 34) dX4_readLet_33 rfl ?_
      refine r_iceq (tgt := 42) (pc2 := 37) dX4_readLet_34 rfl (by decide) ⟨by omega, by omega⟩ ⟨by omega, by omega⟩ (fun b_34 => ?_) (fun b_34 => ?_)
      · refine r_aload0 (pc2 := 43) dX4_readLet_42 rfl ?_
        refine r_getI (z := r_226.2) (pc2 := 46) dX4_readLet_43 rfl (Or.inl fX4_57) (hK_9 hS) rM_f ?_
        refine r_ifne (tgt := 80) (pc2 := 49) dX4_readLet_46 rfl (by decide) ⟨by omega, by omega⟩ (fun b_46 => ?_) (fun b_46 => ?_)
        · have c30 : ¬ 30 ≤ gT G := by omega
          have e3 : (if fnN G (kI T r_213.1) = -1 then r_226 else fl T 3 r_226) = r_226 := by
            by_cases hk : kK T r_213.1 = 18
            · have hz := hv_z_227 (by unfold isW; rw [e_r_226, ck_1]; omega)
              rw [show r_226.1 = r_213.1 from by rw [e_r_226]; exact ck_1] at hz
              rw [if_pos (by omega)]
            · have hn : fl T 3 r_226 = r_226 := by rw [e_r_226]; exact ck_n i_r_213.1 hk
              rw [hn]; split <;> rfl
          refine r_aload0 (pc2 := 81) dX4_readLet_80 rfl ?_
          refine r_cv0 (pc2 := 84) dX4_readLet_81 rfl vX4_108 (hK_9 hS) (by decide) (c_X4_advance (d := d + 3) (M := M) (r := r_226) hS hT hC o_r_226) ?_
          rintro _ M9 ⟨rfl, h9⟩
          obtain ⟨r_228, e_r_228⟩ : ∃ x, x = av T r_226 := ⟨_, rfl⟩
          rw [← e_r_228] at h9
          rw [h9]
          have o_r_228 : rOk T r_228 := by rw [e_r_228]; exact o_r_226.a
          have i_r_228 := o_r_228.2
          show Go (Ct (d + 4)) _ yX4_readLet cX4_readLet none 0 0 84 [some (.ref 9), some (.int (iI 0))] [] (rM M r_228)
          refine r_aload0 (pc2 := 85) dX4_readLet_84 rfl ?_
          refine r_iload1 (pc2 := 86) dX4_readLet_85 rfl ?_
          refine r_cv1 (pc2 := 89) dX4_readLet_86 rfl vX4_128 (hK_9 hS) (by decide) (c_X4_readOpen (d := d + 1) (M := M) (r := r_228) (G := G) (i := 0) hS hT hC o_r_228 hG.2.2.1 hg3 (fun q7 => by have q8 := rK_0 (k := 40) hT o_r_228 (by omega) q7; first | omega | (exact absurd q8.1 (by rw [e_r_228, av_2]; assumption)))) ?_
          rintro _ M9 ⟨rfl, ⟨hf9, h9⟩ | ⟨hf9, h9⟩⟩
          · obtain ⟨r_229, e_r_229⟩ : ∃ x, x = rK T 40 r_228 := ⟨_, rfl⟩
            rw [← e_r_229] at h9 hf9
            obtain ⟨W230, h_W230⟩ : ∃ x, x = pI (pI M 18 (gD G) 0) 9 13 (((gD G + 1 : Nat)) : Int) := ⟨_, rfl⟩
            rw [← h_W230] at h9
            rw [h9]
            have o_r_229 : rOk T r_229 := by rw [e_r_229]; exact o_r_228.K hT
            have i_r_229 := o_r_229.2
            show Go (Ct (d + 4)) _ yX4_readLet cX4_readLet none 0 0 89 [some (.ref 9), some (.int (iI 0))] [] (rM W230 r_229)
            refine r_ret dX4_readLet_89 rfl ?_
            have hl : lLet T r G = (r_229, gOpen (gName (gLine G 13 0 0 0 0) (kI T r_213.1) (gS G)) (gS G)) := by
              unfold lLet
              dsimp only
              rw [← e_r_212, if_neg c30, ← e_r_213, ← e_r_226, e3, ← e_r_228, ← e_r_229]
            rw [hl]
            refine ⟨rfl, (by rw [h_W230]; exact (fr.I (fr.I (fr.I (fr.I fr.rf (by decide)) (by decide)) (by decide)) (by decide))), rfl, fun q => ?_⟩
            have f_r_229 := rK_0 (k := 40) hT o_r_228 (by omega) (by rw [← e_r_229]; exact q)
            have f_r_228 : r_226.2 = 0 := av_0 (by rw [← e_r_228]; exact f_r_229.1)
            exact absurd (f_r_228) b_46
          · obtain ⟨r_229, e_r_229⟩ : ∃ x, x = rK T 40 r_228 := ⟨_, rfl⟩
            rw [← e_r_229] at h9 hf9
            rw [h9]
            have o_r_229 : rOk T r_229 := by rw [e_r_229]; exact o_r_228.K hT
            have i_r_229 := o_r_229.2
            show Go (Ct (d + 4)) _ yX4_readLet cX4_readLet none 0 0 89 [some (.ref 9), some (.int (iI 0))] [] (rM M r_229)
            refine r_ret dX4_readLet_89 rfl ?_
            have hl : lLet T r G = (r_229, gOpen (gName (gLine G 13 0 0 0 0) (kI T r_213.1) (gS G)) (gS G)) := by
              unfold lLet
              dsimp only
              rw [← e_r_212, if_neg c30, ← e_r_213, ← e_r_226, e3, ← e_r_228, ← e_r_229]
            rw [hl]
            refine ⟨rfl, (by exact (fr.I (fr.I fr.rf (by decide)) (by decide))), rfl, fun q => ?_⟩
            exact absurd q hf9
        · have c30 : ¬ 30 ≤ gT G := by omega
          have e3 : (if fnN G (kI T r_213.1) = -1 then r_226 else fl T 3 r_226) = r_226 := by
            by_cases hk : kK T r_213.1 = 18
            · have hz := hv_z_227 (by unfold isW; rw [e_r_226, ck_1]; omega)
              rw [show r_226.1 = r_213.1 from by rw [e_r_226]; exact ck_1] at hz
              rw [if_pos (by omega)]
            · have hn : fl T 3 r_226 = r_226 := by rw [e_r_226]; exact ck_n i_r_213.1 hk
              rw [hn]; split <;> rfl
          have q46 : r_226.2 = 0 := by omega
          have hck := ck_0 i_r_213.1 (by rw [← e_r_226]; exact q46)
          exact absurd (av_0 (by rw [← e_r_213, ← hck.2, ← e_r_226]; exact q46)) hf_r_213
      · refine r_aload0 (pc2 := 38) dX4_readLet_37 rfl ?_
        refine r_iconst (pc2 := 39) dX4_readLet_38 rfl ?_
        refine r_cv1 (pc2 := 42) dX4_readLet_39 rfl vX4_104 (hK_9 hS) (by decide) (c_X4_fail (d := d + 3) (M := M) (r := r_226) (w := 3) hS hT hC o_r_226 (by omega)) ?_
        rintro _ M9 ⟨rfl, h9⟩
        obtain ⟨r_231, e_r_231⟩ : ∃ x, x = fl T 3 r_226 := ⟨_, rfl⟩
        rw [← e_r_231] at h9
        rw [h9]
        have o_r_231 : rOk T r_231 := by rw [e_r_231]; exact o_r_226.f hT (by omega) (by omega)
        have i_r_231 := o_r_231.2
        show Go (Ct (d + 4)) _ yX4_readLet cX4_readLet none 0 0 42 [some (.ref 9), some (.int (iI 0))] [] (rM M r_231)
        refine r_aload0 (pc2 := 43) dX4_readLet_42 rfl ?_
        refine r_getI (z := r_231.2) (pc2 := 46) dX4_readLet_43 rfl (Or.inl fX4_57) (hK_9 hS) rM_f ?_
        refine r_ifne (tgt := 80) (pc2 := 49) dX4_readLet_46 rfl (by decide) ⟨by omega, by omega⟩ (fun b_46 => ?_) (fun b_46 => ?_)
        · have c30 : ¬ 30 ≤ gT G := by omega
          have e3 : (if fnN G (kI T r_213.1) = -1 then r_226 else fl T 3 r_226) = r_231 := by
            by_cases hk : kK T r_213.1 = 18
            · have hz := hv_z_227 (by unfold isW; rw [e_r_226, ck_1]; omega)
              rw [show r_226.1 = r_213.1 from by rw [e_r_226]; exact ck_1] at hz
              rw [if_neg (by omega), e_r_231]
            · have hn : fl T 3 r_226 = r_226 := by rw [e_r_226]; exact ck_n i_r_213.1 hk
              rw [e_r_231, hn]; split <;> rfl
          refine r_aload0 (pc2 := 81) dX4_readLet_80 rfl ?_
          refine r_cv0 (pc2 := 84) dX4_readLet_81 rfl vX4_108 (hK_9 hS) (by decide) (c_X4_advance (d := d + 3) (M := M) (r := r_231) hS hT hC o_r_231) ?_
          rintro _ M9 ⟨rfl, h9⟩
          obtain ⟨r_232, e_r_232⟩ : ∃ x, x = av T r_231 := ⟨_, rfl⟩
          rw [← e_r_232] at h9
          rw [h9]
          have o_r_232 : rOk T r_232 := by rw [e_r_232]; exact o_r_231.a
          have i_r_232 := o_r_232.2
          show Go (Ct (d + 4)) _ yX4_readLet cX4_readLet none 0 0 84 [some (.ref 9), some (.int (iI 0))] [] (rM M r_232)
          refine r_aload0 (pc2 := 85) dX4_readLet_84 rfl ?_
          refine r_iload1 (pc2 := 86) dX4_readLet_85 rfl ?_
          refine r_cv1 (pc2 := 89) dX4_readLet_86 rfl vX4_128 (hK_9 hS) (by decide) (c_X4_readOpen (d := d + 1) (M := M) (r := r_232) (G := G) (i := 0) hS hT hC o_r_232 hG.2.2.1 hg3 (fun q7 => by have q8 := rK_0 (k := 40) hT o_r_232 (by omega) q7; first | omega | (exact absurd q8.1 (by rw [e_r_232, av_2]; assumption)))) ?_
          rintro _ M9 ⟨rfl, ⟨hf9, h9⟩ | ⟨hf9, h9⟩⟩
          · obtain ⟨r_233, e_r_233⟩ : ∃ x, x = rK T 40 r_232 := ⟨_, rfl⟩
            rw [← e_r_233] at h9 hf9
            obtain ⟨W234, h_W234⟩ : ∃ x, x = pI (pI M 18 (gD G) 0) 9 13 (((gD G + 1 : Nat)) : Int) := ⟨_, rfl⟩
            rw [← h_W234] at h9
            rw [h9]
            have o_r_233 : rOk T r_233 := by rw [e_r_233]; exact o_r_232.K hT
            have i_r_233 := o_r_233.2
            show Go (Ct (d + 4)) _ yX4_readLet cX4_readLet none 0 0 89 [some (.ref 9), some (.int (iI 0))] [] (rM W234 r_233)
            refine r_ret dX4_readLet_89 rfl ?_
            have hl : lLet T r G = (r_233, gOpen (gName (gLine G 13 0 0 0 0) (kI T r_213.1) (gS G)) (gS G)) := by
              unfold lLet
              dsimp only
              rw [← e_r_212, if_neg c30, ← e_r_213, ← e_r_226, e3, ← e_r_232, ← e_r_233]
            rw [hl]
            refine ⟨rfl, (by rw [h_W234]; exact (fr.I (fr.I (fr.I (fr.I fr.rf (by decide)) (by decide)) (by decide)) (by decide))), rfl, fun q => ?_⟩
            have f_r_233 := rK_0 (k := 40) hT o_r_232 (by omega) (by rw [← e_r_233]; exact q)
            have f_r_232 : r_231.2 = 0 := av_0 (by rw [← e_r_232]; exact f_r_233.1)
            exact absurd (show (fl T 3 r_226).2 = 0 from by rw [← e_r_231]; exact f_r_232) (fl_f (by omega) i_r_226.1)
          · obtain ⟨r_233, e_r_233⟩ : ∃ x, x = rK T 40 r_232 := ⟨_, rfl⟩
            rw [← e_r_233] at h9 hf9
            rw [h9]
            have o_r_233 : rOk T r_233 := by rw [e_r_233]; exact o_r_232.K hT
            have i_r_233 := o_r_233.2
            show Go (Ct (d + 4)) _ yX4_readLet cX4_readLet none 0 0 89 [some (.ref 9), some (.int (iI 0))] [] (rM M r_233)
            refine r_ret dX4_readLet_89 rfl ?_
            have hl : lLet T r G = (r_233, gOpen (gName (gLine G 13 0 0 0 0) (kI T r_213.1) (gS G)) (gS G)) := by
              unfold lLet
              dsimp only
              rw [← e_r_212, if_neg c30, ← e_r_213, ← e_r_226, e3, ← e_r_232, ← e_r_233]
            rw [hl]
            refine ⟨rfl, (by exact (fr.I (fr.I fr.rf (by decide)) (by decide))), rfl, fun q => ?_⟩
            exact absurd q hf9
        · have c30 : ¬ 30 ≤ gT G := by omega
          have e3 : (if fnN G (kI T r_213.1) = -1 then r_226 else fl T 3 r_226) = r_231 := by
            by_cases hk : kK T r_213.1 = 18
            · have hz := hv_z_227 (by unfold isW; rw [e_r_226, ck_1]; omega)
              rw [show r_226.1 = r_213.1 from by rw [e_r_226]; exact ck_1] at hz
              rw [if_neg (by omega), e_r_231]
            · have hn : fl T 3 r_226 = r_226 := by rw [e_r_226]; exact ck_n i_r_213.1 hk
              rw [e_r_231, hn]; split <;> rfl
          have q46 : r_231.2 = 0 := by omega
          exact absurd (show (fl T 3 r_226).2 = 0 from by rw [← e_r_231]; exact q46) (fl_f (by omega) i_r_226.1)
  · refine r_aload0 (pc2 := 14) dX4_readLet_13 rfl ?_
    refine r_iconst (pc2 := 15) dX4_readLet_14 rfl ?_
    refine r_cv1 (pc2 := 18) dX4_readLet_15 rfl vX4_104 (hK_9 hS) (by decide) (c_X4_fail (d := d + 3) (M := M) (r := r_212) (w := 5) hS hT hC o_r_212 (by omega)) ?_
    rintro _ M9 ⟨rfl, h9⟩
    obtain ⟨r_235, e_r_235⟩ : ∃ x, x = fl T 5 r_212 := ⟨_, rfl⟩
    rw [← e_r_235] at h9
    rw [h9]
    have o_r_235 : rOk T r_235 := by rw [e_r_235]; exact o_r_212.f hT (by omega) (by omega)
    have i_r_235 := o_r_235.2
    show Go (Ct (d + 4)) _ yX4_readLet cX4_readLet none 0 0 18 [some (.ref 9), none] [] (rM M r_235)
    refine r_aload0 (pc2 := 19) dX4_readLet_18 rfl ?_
    refine r_bipush (pc2 := 21) dX4_readLet_19 rfl (by decide) (by decide) ?_
    refine r_cv1 (pc2 := 24) dX4_readLet_21 rfl vX4_100 (hK_9 hS) (by decide) (c_X4_bg (d := d + 2) (M := M) (r := r_235) (G := G) (a := 13) hS hT hC o_r_235 hG hg h125) ?_
    rintro _ M9 (⟨hf_r_236, rfl, h9⟩ | ⟨hf_r_236, rfl, h9⟩)
    · obtain ⟨r_236, e_r_236⟩ : ∃ x, x = av T r_235 := ⟨_, rfl⟩
      rw [← e_r_236] at h9
      obtain ⟨M1, h1⟩ : ∃ x, x = pI (pI (pI M 10 (gS G) 13) 11 (gS G) (((gS G + 1 : Nat)) : Int)) 9 11 (((gS G + 1 : Nat)) : Int) := ⟨_, rfl⟩
      rw [← h1] at h9
      rw [h9]
      have o_r_236 : rOk T r_236 := by rw [e_r_236]; exact o_r_235.a
      have i_r_236 := o_r_236.2
      have hS_M1 : sOk M1.1 := by rw [h1]; exact hS
      have hC_M1 : cT M1 T := by rw [h1]; exact hC
      show Go (Ct (d + 4)) _ yX4_readLet cX4_readLet none 0 0 24 [some (.ref 9), none] [.int (iI ((gS G : Nat) : Int))] (rM M1 r_236)
      refine r_istore1 (pc2 := 25) dX4_readLet_24 rfl rfl ?_
      refine r_aload0 (pc2 := 26) dX4_readLet_25 rfl ?_
      refine r_cv0 (pc2 := 29) dX4_readLet_26 rfl vX4_134 (hK_9 hS_M1) (by decide) (c_X4_checkName (d := d + 2) (M := M1) (r := r_236) hS_M1 hT hC_M1 o_r_236) ?_
      rintro _ M9 ⟨rfl, h9⟩
      obtain ⟨r_237, e_r_237⟩ : ∃ x, x = if kK T r_236.1 = 18 then r_236 else fl T 1 r_236 := ⟨_, rfl⟩
      rw [← e_r_237] at h9
      rw [h9]
      have o_r_237 : rOk T r_237 := by rw [e_r_237]; exact rOk_ck hT o_r_236
      have i_r_237 := o_r_237.2
      show Go (Ct (d + 4)) _ yX4_readLet cX4_readLet none 0 0 29 [some (.ref 9), some (.int (iI ((gS G : Nat) : Int)))] [] (rM M1 r_237)
      refine r_aload0 (pc2 := 30) dX4_readLet_29 rfl ?_
      refine r_cv0 (pc2 := 33) dX4_readLet_30 rfl vX4_137 (hK_9 hS_M1) (by decide) (c_X4_nameAtHand (d := d + 3) (M := M1) (r := r_237) (G := G) hS_M1 hT hC_M1 o_r_237 (by rw [h1]; exact hG.2.1) (fun k hk => by rw [h1]; exact (hG.2.2.2.2.1 k (Or.inl hk)).1) hg) ?_
      rintro _ M9 ⟨z_238, z_2381, z_2382, rfl, h9, hv_z_238⟩
      rw [h9]
      show Go (Ct (d + 4)) _ yX4_readLet cX4_readLet none 0 0 33 [some (.ref 9), some (.int (iI ((gS G : Nat) : Int)))] [.int (iI z_238)] (rM M1 r_237)
      refine r_iconst (pc2 := 34) dX4_readLet_33 rfl ?_
      refine r_iceq (tgt := 42) (pc2 := 37) dX4_readLet_34 rfl (by decide) ⟨by omega, by omega⟩ ⟨by omega, by omega⟩ (fun b_34 => ?_) (fun b_34 => ?_)
      · refine r_aload0 (pc2 := 43) dX4_readLet_42 rfl ?_
        refine r_getI (z := r_237.2) (pc2 := 46) dX4_readLet_43 rfl (Or.inl fX4_57) (hK_9 hS_M1) rM_f ?_
        refine r_ifne (tgt := 80) (pc2 := 49) dX4_readLet_46 rfl (by decide) ⟨by omega, by omega⟩ (fun b_46 => ?_) (fun b_46 => ?_)
        · have c30 : 30 ≤ gT G := by omega
          have e3 : (if fnN G (kI T r_236.1) = -1 then r_237 else fl T 3 r_237) = r_237 := by
            by_cases hk : kK T r_236.1 = 18
            · have hz := hv_z_238 (by unfold isW; rw [e_r_237, ck_1]; omega)
              rw [show r_237.1 = r_236.1 from by rw [e_r_237]; exact ck_1] at hz
              rw [if_pos (by omega)]
            · have hn : fl T 3 r_237 = r_237 := by rw [e_r_237]; exact ck_n i_r_236.1 hk
              rw [hn]; split <;> rfl
          refine r_aload0 (pc2 := 81) dX4_readLet_80 rfl ?_
          refine r_cv0 (pc2 := 84) dX4_readLet_81 rfl vX4_108 (hK_9 hS_M1) (by decide) (c_X4_advance (d := d + 3) (M := M1) (r := r_237) hS_M1 hT hC_M1 o_r_237) ?_
          rintro _ M9 ⟨rfl, h9⟩
          obtain ⟨r_239, e_r_239⟩ : ∃ x, x = av T r_237 := ⟨_, rfl⟩
          rw [← e_r_239] at h9
          rw [h9]
          have o_r_239 : rOk T r_239 := by rw [e_r_239]; exact o_r_237.a
          have i_r_239 := o_r_239.2
          show Go (Ct (d + 4)) _ yX4_readLet cX4_readLet none 0 0 84 [some (.ref 9), some (.int (iI ((gS G : Nat) : Int)))] [] (rM M1 r_239)
          refine r_aload0 (pc2 := 85) dX4_readLet_84 rfl ?_
          refine r_iload1 (pc2 := 86) dX4_readLet_85 rfl ?_
          refine r_cv1 (pc2 := 89) dX4_readLet_86 rfl vX4_128 (hK_9 hS_M1) (by decide) (c_X4_readOpen (d := d + 1) (M := M1) (r := r_239) (G := G) (i := ((gS G : Nat) : Int)) hS_M1 hT hC_M1 o_r_239 (by rw [h1]; exact hG.2.2.1) hg3 (fun q7 => by have q8 := rK_0 (k := 40) hT o_r_239 (by omega) q7; first | omega | (exact absurd q8.1 (by rw [e_r_239, av_2]; assumption)))) ?_
          rintro _ M9 ⟨rfl, ⟨hf9, h9⟩ | ⟨hf9, h9⟩⟩
          · obtain ⟨r_240, e_r_240⟩ : ∃ x, x = rK T 40 r_239 := ⟨_, rfl⟩
            rw [← e_r_240] at h9 hf9
            obtain ⟨W241, h_W241⟩ : ∃ x, x = pI (pI M1 18 (gD G) ((gS G : Nat) : Int)) 9 13 (((gD G + 1 : Nat)) : Int) := ⟨_, rfl⟩
            rw [← h_W241] at h9
            rw [h9]
            have o_r_240 : rOk T r_240 := by rw [e_r_240]; exact o_r_239.K hT
            have i_r_240 := o_r_240.2
            show Go (Ct (d + 4)) _ yX4_readLet cX4_readLet none 0 0 89 [some (.ref 9), some (.int (iI ((gS G : Nat) : Int)))] [] (rM W241 r_240)
            refine r_ret dX4_readLet_89 rfl ?_
            have hl : lLet T r G = (r_240, gOpen (gName (gLine G 13 0 0 0 0) (kI T r_236.1) (gS G)) (gS G)) := by
              unfold lLet
              dsimp only
              rw [← e_r_212, if_pos c30, ← e_r_235, ← e_r_236, ← e_r_237, e3, ← e_r_239, ← e_r_240]
            rw [hl]
            refine ⟨rfl, (by rw [h_W241, h1]; exact (fr.I (fr.I (fr.I (fr.I (fr.I (fr.I (fr.I fr.rf (by decide)) (by decide)) (by decide)) (by decide)) (by decide)) (by decide)) (by decide))), rfl, fun q => ?_⟩
            have f_r_240 := rK_0 (k := 40) hT o_r_239 (by omega) (by rw [← e_r_240]; exact q)
            have f_r_239 : r_237.2 = 0 := av_0 (by rw [← e_r_239]; exact f_r_240.1)
            exact absurd (f_r_239) b_46
          · obtain ⟨r_240, e_r_240⟩ : ∃ x, x = rK T 40 r_239 := ⟨_, rfl⟩
            rw [← e_r_240] at h9 hf9
            rw [h9]
            have o_r_240 : rOk T r_240 := by rw [e_r_240]; exact o_r_239.K hT
            have i_r_240 := o_r_240.2
            show Go (Ct (d + 4)) _ yX4_readLet cX4_readLet none 0 0 89 [some (.ref 9), some (.int (iI ((gS G : Nat) : Int)))] [] (rM M1 r_240)
            refine r_ret dX4_readLet_89 rfl ?_
            have hl : lLet T r G = (r_240, gOpen (gName (gLine G 13 0 0 0 0) (kI T r_236.1) (gS G)) (gS G)) := by
              unfold lLet
              dsimp only
              rw [← e_r_212, if_pos c30, ← e_r_235, ← e_r_236, ← e_r_237, e3, ← e_r_239, ← e_r_240]
            rw [hl]
            refine ⟨rfl, (by rw [h1]; exact (fr.I (fr.I (fr.I (fr.I (fr.I fr.rf (by decide)) (by decide)) (by decide)) (by decide)) (by decide))), rfl, fun q => ?_⟩
            exact absurd q hf9
        · have c30 : 30 ≤ gT G := by omega
          have e3 : (if fnN G (kI T r_236.1) = -1 then r_237 else fl T 3 r_237) = r_237 := by
            by_cases hk : kK T r_236.1 = 18
            · have hz := hv_z_238 (by unfold isW; rw [e_r_237, ck_1]; omega)
              rw [show r_237.1 = r_236.1 from by rw [e_r_237]; exact ck_1] at hz
              rw [if_pos (by omega)]
            · have hn : fl T 3 r_237 = r_237 := by rw [e_r_237]; exact ck_n i_r_236.1 hk
              rw [hn]; split <;> rfl
          have q46 : r_237.2 = 0 := by omega
          have hck := ck_0 i_r_236.1 (by rw [← e_r_237]; exact q46)
          exact absurd (by rw [← e_r_235]; exact hf_r_236) (fl_f (by omega) i_r_212.1)
      · refine r_aload0 (pc2 := 38) dX4_readLet_37 rfl ?_
        refine r_iconst (pc2 := 39) dX4_readLet_38 rfl ?_
        refine r_cv1 (pc2 := 42) dX4_readLet_39 rfl vX4_104 (hK_9 hS_M1) (by decide) (c_X4_fail (d := d + 3) (M := M1) (r := r_237) (w := 3) hS_M1 hT hC_M1 o_r_237 (by omega)) ?_
        rintro _ M9 ⟨rfl, h9⟩
        obtain ⟨r_242, e_r_242⟩ : ∃ x, x = fl T 3 r_237 := ⟨_, rfl⟩
        rw [← e_r_242] at h9
        rw [h9]
        have o_r_242 : rOk T r_242 := by rw [e_r_242]; exact o_r_237.f hT (by omega) (by omega)
        have i_r_242 := o_r_242.2
        show Go (Ct (d + 4)) _ yX4_readLet cX4_readLet none 0 0 42 [some (.ref 9), some (.int (iI ((gS G : Nat) : Int)))] [] (rM M1 r_242)
        refine r_aload0 (pc2 := 43) dX4_readLet_42 rfl ?_
        refine r_getI (z := r_242.2) (pc2 := 46) dX4_readLet_43 rfl (Or.inl fX4_57) (hK_9 hS_M1) rM_f ?_
        refine r_ifne (tgt := 80) (pc2 := 49) dX4_readLet_46 rfl (by decide) ⟨by omega, by omega⟩ (fun b_46 => ?_) (fun b_46 => ?_)
        · have c30 : 30 ≤ gT G := by omega
          have e3 : (if fnN G (kI T r_236.1) = -1 then r_237 else fl T 3 r_237) = r_242 := by
            by_cases hk : kK T r_236.1 = 18
            · have hz := hv_z_238 (by unfold isW; rw [e_r_237, ck_1]; omega)
              rw [show r_237.1 = r_236.1 from by rw [e_r_237]; exact ck_1] at hz
              rw [if_neg (by omega), e_r_242]
            · have hn : fl T 3 r_237 = r_237 := by rw [e_r_237]; exact ck_n i_r_236.1 hk
              rw [e_r_242, hn]; split <;> rfl
          refine r_aload0 (pc2 := 81) dX4_readLet_80 rfl ?_
          refine r_cv0 (pc2 := 84) dX4_readLet_81 rfl vX4_108 (hK_9 hS_M1) (by decide) (c_X4_advance (d := d + 3) (M := M1) (r := r_242) hS_M1 hT hC_M1 o_r_242) ?_
          rintro _ M9 ⟨rfl, h9⟩
          obtain ⟨r_243, e_r_243⟩ : ∃ x, x = av T r_242 := ⟨_, rfl⟩
          rw [← e_r_243] at h9
          rw [h9]
          have o_r_243 : rOk T r_243 := by rw [e_r_243]; exact o_r_242.a
          have i_r_243 := o_r_243.2
          show Go (Ct (d + 4)) _ yX4_readLet cX4_readLet none 0 0 84 [some (.ref 9), some (.int (iI ((gS G : Nat) : Int)))] [] (rM M1 r_243)
          refine r_aload0 (pc2 := 85) dX4_readLet_84 rfl ?_
          refine r_iload1 (pc2 := 86) dX4_readLet_85 rfl ?_
          refine r_cv1 (pc2 := 89) dX4_readLet_86 rfl vX4_128 (hK_9 hS_M1) (by decide) (c_X4_readOpen (d := d + 1) (M := M1) (r := r_243) (G := G) (i := ((gS G : Nat) : Int)) hS_M1 hT hC_M1 o_r_243 (by rw [h1]; exact hG.2.2.1) hg3 (fun q7 => by have q8 := rK_0 (k := 40) hT o_r_243 (by omega) q7; first | omega | (exact absurd q8.1 (by rw [e_r_243, av_2]; assumption)))) ?_
          rintro _ M9 ⟨rfl, ⟨hf9, h9⟩ | ⟨hf9, h9⟩⟩
          · obtain ⟨r_244, e_r_244⟩ : ∃ x, x = rK T 40 r_243 := ⟨_, rfl⟩
            rw [← e_r_244] at h9 hf9
            obtain ⟨W245, h_W245⟩ : ∃ x, x = pI (pI M1 18 (gD G) ((gS G : Nat) : Int)) 9 13 (((gD G + 1 : Nat)) : Int) := ⟨_, rfl⟩
            rw [← h_W245] at h9
            rw [h9]
            have o_r_244 : rOk T r_244 := by rw [e_r_244]; exact o_r_243.K hT
            have i_r_244 := o_r_244.2
            show Go (Ct (d + 4)) _ yX4_readLet cX4_readLet none 0 0 89 [some (.ref 9), some (.int (iI ((gS G : Nat) : Int)))] [] (rM W245 r_244)
            refine r_ret dX4_readLet_89 rfl ?_
            have hl : lLet T r G = (r_244, gOpen (gName (gLine G 13 0 0 0 0) (kI T r_236.1) (gS G)) (gS G)) := by
              unfold lLet
              dsimp only
              rw [← e_r_212, if_pos c30, ← e_r_235, ← e_r_236, ← e_r_237, e3, ← e_r_243, ← e_r_244]
            rw [hl]
            refine ⟨rfl, (by rw [h_W245, h1]; exact (fr.I (fr.I (fr.I (fr.I (fr.I (fr.I (fr.I fr.rf (by decide)) (by decide)) (by decide)) (by decide)) (by decide)) (by decide)) (by decide))), rfl, fun q => ?_⟩
            have f_r_244 := rK_0 (k := 40) hT o_r_243 (by omega) (by rw [← e_r_244]; exact q)
            have f_r_243 : r_242.2 = 0 := av_0 (by rw [← e_r_243]; exact f_r_244.1)
            exact absurd (show (fl T 3 r_237).2 = 0 from by rw [← e_r_242]; exact f_r_243) (fl_f (by omega) i_r_237.1)
          · obtain ⟨r_244, e_r_244⟩ : ∃ x, x = rK T 40 r_243 := ⟨_, rfl⟩
            rw [← e_r_244] at h9 hf9
            rw [h9]
            have o_r_244 : rOk T r_244 := by rw [e_r_244]; exact o_r_243.K hT
            have i_r_244 := o_r_244.2
            show Go (Ct (d + 4)) _ yX4_readLet cX4_readLet none 0 0 89 [some (.ref 9), some (.int (iI ((gS G : Nat) : Int)))] [] (rM M1 r_244)
            refine r_ret dX4_readLet_89 rfl ?_
            have hl : lLet T r G = (r_244, gOpen (gName (gLine G 13 0 0 0 0) (kI T r_236.1) (gS G)) (gS G)) := by
              unfold lLet
              dsimp only
              rw [← e_r_212, if_pos c30, ← e_r_235, ← e_r_236, ← e_r_237, e3, ← e_r_243, ← e_r_244]
            rw [hl]
            refine ⟨rfl, (by rw [h1]; exact (fr.I (fr.I (fr.I (fr.I (fr.I fr.rf (by decide)) (by decide)) (by decide)) (by decide)) (by decide))), rfl, fun q => ?_⟩
            exact absurd q hf9
        · have c30 : 30 ≤ gT G := by omega
          have e3 : (if fnN G (kI T r_236.1) = -1 then r_237 else fl T 3 r_237) = r_242 := by
            by_cases hk : kK T r_236.1 = 18
            · have hz := hv_z_238 (by unfold isW; rw [e_r_237, ck_1]; omega)
              rw [show r_237.1 = r_236.1 from by rw [e_r_237]; exact ck_1] at hz
              rw [if_neg (by omega), e_r_242]
            · have hn : fl T 3 r_237 = r_237 := by rw [e_r_237]; exact ck_n i_r_236.1 hk
              rw [e_r_242, hn]; split <;> rfl
          have q46 : r_242.2 = 0 := by omega
          exact absurd (show (fl T 3 r_237).2 = 0 from by rw [← e_r_242]; exact q46) (fl_f (by omega) i_r_237.1)
    · obtain ⟨r_236, e_r_236⟩ : ∃ x, x = av T r_235 := ⟨_, rfl⟩
      rw [← e_r_236] at h9
      rw [h9]
      have o_r_236 : rOk T r_236 := by rw [e_r_236]; exact o_r_235.a
      have i_r_236 := o_r_236.2
      show Go (Ct (d + 4)) _ yX4_readLet cX4_readLet none 0 0 24 [some (.ref 9), none] [.int (iI 0)] (rM M r_236)
      refine r_istore1 (pc2 := 25) dX4_readLet_24 rfl rfl ?_
      refine r_aload0 (pc2 := 26) dX4_readLet_25 rfl ?_
      refine r_cv0 (pc2 := 29) dX4_readLet_26 rfl vX4_134 (hK_9 hS) (by decide) (c_X4_checkName (d := d + 2) (M := M) (r := r_236) hS hT hC o_r_236) ?_
      rintro _ M9 ⟨rfl, h9⟩
      obtain ⟨r_246, e_r_246⟩ : ∃ x, x = if kK T r_236.1 = 18 then r_236 else fl T 1 r_236 := ⟨_, rfl⟩
      rw [← e_r_246] at h9
      rw [h9]
      have o_r_246 : rOk T r_246 := by rw [e_r_246]; exact rOk_ck hT o_r_236
      have i_r_246 := o_r_246.2
      show Go (Ct (d + 4)) _ yX4_readLet cX4_readLet none 0 0 29 [some (.ref 9), some (.int (iI 0))] [] (rM M r_246)
      refine r_aload0 (pc2 := 30) dX4_readLet_29 rfl ?_
      refine r_cv0 (pc2 := 33) dX4_readLet_30 rfl vX4_137 (hK_9 hS) (by decide) (c_X4_nameAtHand (d := d + 3) (M := M) (r := r_246) (G := G) hS hT hC o_r_246 hG.2.1 (fun k hk => (hG.2.2.2.2.1 k (Or.inl hk)).1) hg) ?_
      rintro _ M9 ⟨z_247, z_2471, z_2472, rfl, h9, hv_z_247⟩
      rw [h9]
      show Go (Ct (d + 4)) _ yX4_readLet cX4_readLet none 0 0 33 [some (.ref 9), some (.int (iI 0))] [.int (iI z_247)] (rM M r_246)
      refine r_iconst (pc2 := 34) dX4_readLet_33 rfl ?_
      refine r_iceq (tgt := 42) (pc2 := 37) dX4_readLet_34 rfl (by decide) ⟨by omega, by omega⟩ ⟨by omega, by omega⟩ (fun b_34 => ?_) (fun b_34 => ?_)
      · refine r_aload0 (pc2 := 43) dX4_readLet_42 rfl ?_
        refine r_getI (z := r_246.2) (pc2 := 46) dX4_readLet_43 rfl (Or.inl fX4_57) (hK_9 hS) rM_f ?_
        refine r_ifne (tgt := 80) (pc2 := 49) dX4_readLet_46 rfl (by decide) ⟨by omega, by omega⟩ (fun b_46 => ?_) (fun b_46 => ?_)
        · have c30 : 30 ≤ gT G := by omega
          have e3 : (if fnN G (kI T r_236.1) = -1 then r_246 else fl T 3 r_246) = r_246 := by
            by_cases hk : kK T r_236.1 = 18
            · have hz := hv_z_247 (by unfold isW; rw [e_r_246, ck_1]; omega)
              rw [show r_246.1 = r_236.1 from by rw [e_r_246]; exact ck_1] at hz
              rw [if_pos (by omega)]
            · have hn : fl T 3 r_246 = r_246 := by rw [e_r_246]; exact ck_n i_r_236.1 hk
              rw [hn]; split <;> rfl
          refine r_aload0 (pc2 := 81) dX4_readLet_80 rfl ?_
          refine r_cv0 (pc2 := 84) dX4_readLet_81 rfl vX4_108 (hK_9 hS) (by decide) (c_X4_advance (d := d + 3) (M := M) (r := r_246) hS hT hC o_r_246) ?_
          rintro _ M9 ⟨rfl, h9⟩
          obtain ⟨r_248, e_r_248⟩ : ∃ x, x = av T r_246 := ⟨_, rfl⟩
          rw [← e_r_248] at h9
          rw [h9]
          have o_r_248 : rOk T r_248 := by rw [e_r_248]; exact o_r_246.a
          have i_r_248 := o_r_248.2
          show Go (Ct (d + 4)) _ yX4_readLet cX4_readLet none 0 0 84 [some (.ref 9), some (.int (iI 0))] [] (rM M r_248)
          refine r_aload0 (pc2 := 85) dX4_readLet_84 rfl ?_
          refine r_iload1 (pc2 := 86) dX4_readLet_85 rfl ?_
          refine r_cv1 (pc2 := 89) dX4_readLet_86 rfl vX4_128 (hK_9 hS) (by decide) (c_X4_readOpen (d := d + 1) (M := M) (r := r_248) (G := G) (i := 0) hS hT hC o_r_248 hG.2.2.1 hg3 (fun q7 => by have q8 := rK_0 (k := 40) hT o_r_248 (by omega) q7; first | omega | (exact absurd q8.1 (by rw [e_r_248, av_2]; assumption)))) ?_
          rintro _ M9 ⟨rfl, ⟨hf9, h9⟩ | ⟨hf9, h9⟩⟩
          · obtain ⟨r_249, e_r_249⟩ : ∃ x, x = rK T 40 r_248 := ⟨_, rfl⟩
            rw [← e_r_249] at h9 hf9
            obtain ⟨W250, h_W250⟩ : ∃ x, x = pI (pI M 18 (gD G) 0) 9 13 (((gD G + 1 : Nat)) : Int) := ⟨_, rfl⟩
            rw [← h_W250] at h9
            rw [h9]
            have o_r_249 : rOk T r_249 := by rw [e_r_249]; exact o_r_248.K hT
            have i_r_249 := o_r_249.2
            show Go (Ct (d + 4)) _ yX4_readLet cX4_readLet none 0 0 89 [some (.ref 9), some (.int (iI 0))] [] (rM W250 r_249)
            refine r_ret dX4_readLet_89 rfl ?_
            have hl : lLet T r G = (r_249, gOpen (gName (gLine G 13 0 0 0 0) (kI T r_236.1) (gS G)) (gS G)) := by
              unfold lLet
              dsimp only
              rw [← e_r_212, if_pos c30, ← e_r_235, ← e_r_236, ← e_r_246, e3, ← e_r_248, ← e_r_249]
            rw [hl]
            refine ⟨rfl, (by rw [h_W250]; exact (fr.I (fr.I (fr.I (fr.I fr.rf (by decide)) (by decide)) (by decide)) (by decide))), rfl, fun q => ?_⟩
            have f_r_249 := rK_0 (k := 40) hT o_r_248 (by omega) (by rw [← e_r_249]; exact q)
            have f_r_248 : r_246.2 = 0 := av_0 (by rw [← e_r_248]; exact f_r_249.1)
            exact absurd (f_r_248) b_46
          · obtain ⟨r_249, e_r_249⟩ : ∃ x, x = rK T 40 r_248 := ⟨_, rfl⟩
            rw [← e_r_249] at h9 hf9
            rw [h9]
            have o_r_249 : rOk T r_249 := by rw [e_r_249]; exact o_r_248.K hT
            have i_r_249 := o_r_249.2
            show Go (Ct (d + 4)) _ yX4_readLet cX4_readLet none 0 0 89 [some (.ref 9), some (.int (iI 0))] [] (rM M r_249)
            refine r_ret dX4_readLet_89 rfl ?_
            have hl : lLet T r G = (r_249, gOpen (gName (gLine G 13 0 0 0 0) (kI T r_236.1) (gS G)) (gS G)) := by
              unfold lLet
              dsimp only
              rw [← e_r_212, if_pos c30, ← e_r_235, ← e_r_236, ← e_r_246, e3, ← e_r_248, ← e_r_249]
            rw [hl]
            refine ⟨rfl, (by exact (fr.I (fr.I fr.rf (by decide)) (by decide))), rfl, fun q => ?_⟩
            exact absurd q hf9
        · have c30 : 30 ≤ gT G := by omega
          have e3 : (if fnN G (kI T r_236.1) = -1 then r_246 else fl T 3 r_246) = r_246 := by
            by_cases hk : kK T r_236.1 = 18
            · have hz := hv_z_247 (by unfold isW; rw [e_r_246, ck_1]; omega)
              rw [show r_246.1 = r_236.1 from by rw [e_r_246]; exact ck_1] at hz
              rw [if_pos (by omega)]
            · have hn : fl T 3 r_246 = r_246 := by rw [e_r_246]; exact ck_n i_r_236.1 hk
              rw [hn]; split <;> rfl
          have q46 : r_246.2 = 0 := by omega
          have hck := ck_0 i_r_236.1 (by rw [← e_r_246]; exact q46)
          exact absurd (av_0 (by rw [← e_r_236, ← hck.2, ← e_r_246]; exact q46)) hf_r_236
      · refine r_aload0 (pc2 := 38) dX4_readLet_37 rfl ?_
        refine r_iconst (pc2 := 39) dX4_readLet_38 rfl ?_
        refine r_cv1 (pc2 := 42) dX4_readLet_39 rfl vX4_104 (hK_9 hS) (by decide) (c_X4_fail (d := d + 3) (M := M) (r := r_246) (w := 3) hS hT hC o_r_246 (by omega)) ?_
        rintro _ M9 ⟨rfl, h9⟩
        obtain ⟨r_251, e_r_251⟩ : ∃ x, x = fl T 3 r_246 := ⟨_, rfl⟩
        rw [← e_r_251] at h9
        rw [h9]
        have o_r_251 : rOk T r_251 := by rw [e_r_251]; exact o_r_246.f hT (by omega) (by omega)
        have i_r_251 := o_r_251.2
        show Go (Ct (d + 4)) _ yX4_readLet cX4_readLet none 0 0 42 [some (.ref 9), some (.int (iI 0))] [] (rM M r_251)
        refine r_aload0 (pc2 := 43) dX4_readLet_42 rfl ?_
        refine r_getI (z := r_251.2) (pc2 := 46) dX4_readLet_43 rfl (Or.inl fX4_57) (hK_9 hS) rM_f ?_
        refine r_ifne (tgt := 80) (pc2 := 49) dX4_readLet_46 rfl (by decide) ⟨by omega, by omega⟩ (fun b_46 => ?_) (fun b_46 => ?_)
        · have c30 : 30 ≤ gT G := by omega
          have e3 : (if fnN G (kI T r_236.1) = -1 then r_246 else fl T 3 r_246) = r_251 := by
            by_cases hk : kK T r_236.1 = 18
            · have hz := hv_z_247 (by unfold isW; rw [e_r_246, ck_1]; omega)
              rw [show r_246.1 = r_236.1 from by rw [e_r_246]; exact ck_1] at hz
              rw [if_neg (by omega), e_r_251]
            · have hn : fl T 3 r_246 = r_246 := by rw [e_r_246]; exact ck_n i_r_236.1 hk
              rw [e_r_251, hn]; split <;> rfl
          refine r_aload0 (pc2 := 81) dX4_readLet_80 rfl ?_
          refine r_cv0 (pc2 := 84) dX4_readLet_81 rfl vX4_108 (hK_9 hS) (by decide) (c_X4_advance (d := d + 3) (M := M) (r := r_251) hS hT hC o_r_251) ?_
          rintro _ M9 ⟨rfl, h9⟩
          obtain ⟨r_252, e_r_252⟩ : ∃ x, x = av T r_251 := ⟨_, rfl⟩
          rw [← e_r_252] at h9
          rw [h9]
          have o_r_252 : rOk T r_252 := by rw [e_r_252]; exact o_r_251.a
          have i_r_252 := o_r_252.2
          show Go (Ct (d + 4)) _ yX4_readLet cX4_readLet none 0 0 84 [some (.ref 9), some (.int (iI 0))] [] (rM M r_252)
          refine r_aload0 (pc2 := 85) dX4_readLet_84 rfl ?_
          refine r_iload1 (pc2 := 86) dX4_readLet_85 rfl ?_
          refine r_cv1 (pc2 := 89) dX4_readLet_86 rfl vX4_128 (hK_9 hS) (by decide) (c_X4_readOpen (d := d + 1) (M := M) (r := r_252) (G := G) (i := 0) hS hT hC o_r_252 hG.2.2.1 hg3 (fun q7 => by have q8 := rK_0 (k := 40) hT o_r_252 (by omega) q7; first | omega | (exact absurd q8.1 (by rw [e_r_252, av_2]; assumption)))) ?_
          rintro _ M9 ⟨rfl, ⟨hf9, h9⟩ | ⟨hf9, h9⟩⟩
          · obtain ⟨r_253, e_r_253⟩ : ∃ x, x = rK T 40 r_252 := ⟨_, rfl⟩
            rw [← e_r_253] at h9 hf9
            obtain ⟨W254, h_W254⟩ : ∃ x, x = pI (pI M 18 (gD G) 0) 9 13 (((gD G + 1 : Nat)) : Int) := ⟨_, rfl⟩
            rw [← h_W254] at h9
            rw [h9]
            have o_r_253 : rOk T r_253 := by rw [e_r_253]; exact o_r_252.K hT
            have i_r_253 := o_r_253.2
            show Go (Ct (d + 4)) _ yX4_readLet cX4_readLet none 0 0 89 [some (.ref 9), some (.int (iI 0))] [] (rM W254 r_253)
            refine r_ret dX4_readLet_89 rfl ?_
            have hl : lLet T r G = (r_253, gOpen (gName (gLine G 13 0 0 0 0) (kI T r_236.1) (gS G)) (gS G)) := by
              unfold lLet
              dsimp only
              rw [← e_r_212, if_pos c30, ← e_r_235, ← e_r_236, ← e_r_246, e3, ← e_r_252, ← e_r_253]
            rw [hl]
            refine ⟨rfl, (by rw [h_W254]; exact (fr.I (fr.I (fr.I (fr.I fr.rf (by decide)) (by decide)) (by decide)) (by decide))), rfl, fun q => ?_⟩
            have f_r_253 := rK_0 (k := 40) hT o_r_252 (by omega) (by rw [← e_r_253]; exact q)
            have f_r_252 : r_251.2 = 0 := av_0 (by rw [← e_r_252]; exact f_r_253.1)
            exact absurd (show (fl T 3 r_246).2 = 0 from by rw [← e_r_251]; exact f_r_252) (fl_f (by omega) i_r_246.1)
          · obtain ⟨r_253, e_r_253⟩ : ∃ x, x = rK T 40 r_252 := ⟨_, rfl⟩
            rw [← e_r_253] at h9 hf9
            rw [h9]
            have o_r_253 : rOk T r_253 := by rw [e_r_253]; exact o_r_252.K hT
            have i_r_253 := o_r_253.2
            show Go (Ct (d + 4)) _ yX4_readLet cX4_readLet none 0 0 89 [some (.ref 9), some (.int (iI 0))] [] (rM M r_253)
            refine r_ret dX4_readLet_89 rfl ?_
            have hl : lLet T r G = (r_253, gOpen (gName (gLine G 13 0 0 0 0) (kI T r_236.1) (gS G)) (gS G)) := by
              unfold lLet
              dsimp only
              rw [← e_r_212, if_pos c30, ← e_r_235, ← e_r_236, ← e_r_246, e3, ← e_r_252, ← e_r_253]
            rw [hl]
            refine ⟨rfl, (by exact (fr.I (fr.I fr.rf (by decide)) (by decide))), rfl, fun q => ?_⟩
            exact absurd q hf9
        · have c30 : 30 ≤ gT G := by omega
          have e3 : (if fnN G (kI T r_236.1) = -1 then r_246 else fl T 3 r_246) = r_251 := by
            by_cases hk : kK T r_236.1 = 18
            · have hz := hv_z_247 (by unfold isW; rw [e_r_246, ck_1]; omega)
              rw [show r_246.1 = r_236.1 from by rw [e_r_246]; exact ck_1] at hz
              rw [if_neg (by omega), e_r_251]
            · have hn : fl T 3 r_246 = r_246 := by rw [e_r_246]; exact ck_n i_r_236.1 hk
              rw [e_r_251, hn]; split <;> rfl
          have q46 : r_251.2 = 0 := by omega
          exact absurd (show (fl T 3 r_246).2 = 0 from by rw [← e_r_251]; exact q46) (fl_f (by omega) i_r_246.1)
