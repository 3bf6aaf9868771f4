/-! the class's LINES -/
theorem rOk_cNs {T : tD} {r : rdT} {G : gPr} (hT : tOk T) (h : rOk T r) : rOk T (cNs T r G) := by
  unfold cNs
  split
  · exact h.f hT (by omega) (by omega)
  · exact h
theorem rOk_cOu {T : tD} {r : rdT} {G : gPr} (hT : tOk T) (h : rOk T r) : rOk T (cOu T r G) := by
  unfold cOu
  split
  · exact h.f hT (by omega) (by omega)
  · exact h
theorem rOk_ck {T : tD} {r : rdT} (hT : tOk T) (h : rOk T r) : rOk T (if kK T r.1 = 18 then r else fl T 1 r) := by
  split
  · exact h
  · exact h.f hT (by omega) (by omega)
theorem cNs_0 {T : tD} {r : rdT} {G : gPr} (h : rOk T r) (q : (cNs T r G).2 = 0) : nst G < 4 ∧ cNs T r G = r := by
  unfold cNs at q ⊢
  split at q
  · exact absurd q (fl_f (by omega) h.2.1)
  · rename_i c; exact ⟨by omega, if_neg c⟩
theorem cOu_0 {T : tD} {r : rdT} {G : gPr} (h : rOk T r) (q : (cOu T r G).2 = 0) : gD G = 0 ∧ cOu T r G = r := by
  unfold cOu at q ⊢
  split at q
  · exact absurd q (fl_f (by omega) h.2.1)
  · rename_i c; exact ⟨by omega, if_neg c⟩
theorem nst_le {G : gPr} : gD G ≤ nst G + 1 := by unfold nst; split <;> omega
def lnM (M : pM) (i : Nat) (a x y z w : Int) : pM := pI (pI (pI (pI (pI (pI (pI M 10 i a) 11 i (((i + 1 : Nat)) : Int)) 9 11 (((i + 1 : Nat)) : Int)) 12 i x) 13 i y) 14 i z) 15 i w
def cPo (M M2 : pM) (x : pS2) : Prop := fr [9, 10, 11, 12, 13, 14, 15, 16, 17, 18] M M2 ∧ M2.2.1 9 14 = x.1.2 ∧ (x.1.2 = 0 → M2.2.1 9 10 = ((x.1.1 : Nat) : Int) ∧ CG M2 x.2)
theorem inL_line {G : gPr} {a x y z w : Int} (hg : gOk G) : inL (gLine G a x y z w) ↔ inL G := by
  constructor
  · rintro ⟨h1, h2⟩
    have h1 : 0 < gD G := h1
    have h3 := hg.2.2.2.1 0 h1
    have h2 : va_up (gA G) (gS G) a (gO G 0) = 13 := h2
    rw [up_ne (by omega)] at h2
    exact ⟨h1, h2⟩
  · rintro ⟨h1, h2⟩
    have h3 := hg.2.2.2.1 0 h1
    refine ⟨h1, ?_⟩
    show va_up (gA G) (gS G) a (gO G 0) = 13
    rw [up_ne (by omega)]
    exact h2
theorem CG.line {M : pM} {G : gPr} {a x y z w : Int} (h : CG M G) (hg : gOk G) : CG (lnM M (gS G) a x y z w) (gLine G a x y z w) := by
  obtain ⟨h1, h2, h3, h4, h5, h6⟩ := h
  refine ⟨rfl, h2, h3, fun i hi => ?_, fun k hk => h5 k (hk.imp id (fun q => ⟨(inL_line hg).mp q.1, q.2⟩)), h6⟩
  have hi : i < gS G + 1 := hi
  show va_up (M.2.1 10) (gS G) a i = va_up (gA G) (gS G) a i ∧ va_up (M.2.1 11) (gS G) _ i = va_up (gE G) (gS G) _ i ∧ (¬ va_up (gA G) (gS G) a i = 13 → va_up (M.2.1 12) (gS G) x i = va_up (g1 G) (gS G) x i ∧ va_up (M.2.1 13) (gS G) y i = va_up (g2 G) (gS G) y i ∧ va_up (M.2.1 14) (gS G) z i = va_up (g3 G) (gS G) z i ∧ va_up (M.2.1 15) (gS G) w i = va_up (g4 G) (gS G) w i)
  by_cases e : i = gS G
  · subst e
    rw [up_at, up_at, up_at, up_at, up_at, up_at, up_at, up_at, up_at, up_at, up_at, up_at]
    exact ⟨rfl, rfl, fun _ => ⟨rfl, rfl, rfl, rfl⟩⟩
  · rw [up_ne e, up_ne e, up_ne e, up_ne e, up_ne e, up_ne e, up_ne e, up_ne e, up_ne e, up_ne e, up_ne e, up_ne e]
    exact h4 i (by omega)
theorem CG.opn {M : pM} {G : gPr} {i : Nat} (h : CG M G) (hi : (gD G = 0 → ¬ gA G i = 13)) : CG (pI (pI M 18 (gD G) ((i : Nat) : Int)) 9 13 (((gD G + 1 : Nat)) : Int)) (gOpen G i) := by
  obtain ⟨h1, h2, h3, h4, h5, h6⟩ := h
  refine ⟨h1, h2, rfl, h4, fun k hk => h5 k (hk.imp id (fun q => ⟨?_, q.2⟩)), fun j hj => ?_⟩
  · obtain ⟨q1, q2⟩ := q.1
    have q2 : gA G (va_up (gO G) (gD G) i 0) = 13 := q2
    by_cases e : gD G = 0
    · rw [e, up_at] at q2; exact absurd q2 (hi e)
    · rw [up_ne (by omega)] at q2; exact ⟨by omega, q2⟩
  · have hj : j < gD G + 1 := hj
    show va_up (M.2.1 18) (gD G) _ j = ((va_up (gO G) (gD G) i j : Nat) : Int)
    by_cases e : j = gD G
    · subst e; rw [up_at, up_at]
    · rw [up_ne e, up_ne e]; exact h6 j (by omega)
theorem gOk.line {G : gPr} {a x y z w : Int} (hg : gOk G) (h : gS G < 125) (ha : 10 ≤ a ∧ a ≤ 16) : gOk (gLine G a x y z w) := by
  obtain ⟨h1, h2, h3, h4, h5, h6⟩ := hg
  refine ⟨by show gS G + 1 ≤ 125; omega, h2, h3, fun j hj => by have := h4 j hj; show gO G j < gS G + 1; omega, fun i hi => ?_, h6⟩
  have hi : i < gS G + 1 := hi
  show 10 ≤ va_up (gA G) (gS G) a i ∧ va_up (gA G) (gS G) a i ≤ 16
  by_cases e : i = gS G
  · subst e; rw [up_at]; exact ha
  · rw [up_ne e]; exact h5 i (by omega)
set_option maxHeartbeats 4000000 in
theorem c_X4_readPut {d : Nat} {M : pM} {T : tD} {r : rdT} {G : gPr} (hS : sOk M.1) (hT : tOk T) (hC : cT M T) (o_r : rOk T r) (hr : r.2 = 0) (hG : CG M G) (hg : gOk G) (h125 : gS G < 125) : Ct (d + 4) 0 0 yX4_readPut [.ref 9] (rM M r) (fun v M2 => v = none ∧ cPo M M2 (lPut T r G)) := by
  refine ct_in (d := (d + 3)) kX4_readPut rfl (by decide) (Nat.le_of_ble_eq_true rfl) (by decide) ?_
  show Go (Ct (d + 3)) _ yX4_readPut cX4_readPut none 0 0 0 [some (.ref 9), none, none, none, none, none] [] (rM M r)
  have hT1 := hT.1
  have i_r := o_r.2
  have hg1 := hg.1
  have hg2 := hg.2.1
  have hg3 := hg.2.2.1
  refine r_aload0 (pc2 := 1) dX4_readPut_0 rfl ?_
  refine r_bipush (pc2 := 3) dX4_readPut_1 rfl (by decide) (by decide) ?_
  refine r_cv1 (pc2 := 6) dX4_readPut_3 rfl vX4_100 (hK_9 hS) (by decide) (c_X4_begin (d := d + 1) (M := M) (r := r) (G := G) (a := 10) hS hT hC o_r hG hg hr h125) ?_
  rintro _ M9 ⟨rfl, h9⟩
  obtain ⟨r_1, e_r_1⟩ : ∃ x, x = av T r := ⟨_, rfl⟩
  obtain ⟨M1, h1⟩ : ∃ x, x = pI (pI (pI M 10 (gS G) 10) 11 (gS G) (((gS G + 1 : Nat)) : Int)) 9 11 (((gS G + 1 : Nat)) : Int) := ⟨_, rfl⟩
  rw [← e_r_1, ← h1] at h9
  rw [h9]
  have o_r_1 : rOk T r_1 := by rw [e_r_1]; exact o_r.a
  have i_r_1 := o_r_1.2
  have hS_M1 : sOk M1.1 := by rw [h1]; exact hS
  have hC_M1 : cT M1 T := by rw [h1]; exact hC
  show Go (Ct (d + 3)) _ yX4_readPut cX4_readPut none 0 0 6 [some (.ref 9), none, none, none, none, none] [.int (iI ((gS G : Nat) : Int))] (rM M1 r_1)
  refine r_istore1 (pc2 := 7) dX4_readPut_6 rfl rfl ?_
  refine r_aload0 (pc2 := 8) dX4_readPut_7 rfl ?_
  refine r_cv0 (pc2 := 11) dX4_readPut_8 rfl vX4_72 (hK_9 hS_M1) (by decide) (c_X4_kindAtHand (d := d + 2) (M := M1) (r := r_1) hS_M1 hT hC_M1 o_r_1) ?_
  rintro _ M9 ⟨rfl, h9⟩
  rw [h9]
  have kr_r_1 := kK_r hT o_r_1.1
  show Go (Ct (d + 3)) _ yX4_readPut cX4_readPut none 0 0 11 [some (.ref 9), some (.int (iI ((gS G : Nat) : Int))), none, none, none, none] [.int (iI (kK T r_1.1))] (rM M1 r_1)
  refine r_istore2 (pc2 := 12) dX4_readPut_11 rfl rfl ?_
  refine r_iload2 (pc2 := 13) dX4_readPut_12 rfl ?_
  refine r_iconst (pc2 := 14) dX4_readPut_13 rfl ?_
  refine r_iclt (tgt := 23) (pc2 := 17) dX4_readPut_14 rfl (by decide) ⟨by omega, by omega⟩ ⟨by omega, by omega⟩ (fun b_14 => ?_) (fun b_14 => ?_)
  · refine r_aload0 (pc2 := 24) dX4_readPut_23 rfl ?_
    refine r_iconst (pc2 := 25) dX4_readPut_24 rfl ?_
    refine r_cv1 (pc2 := 28) dX4_readPut_25 rfl vX4_104 (hK_9 hS_M1) (by decide) (c_X4_fail (d := d + 2) (M := M1) (r := r_1) (w := 1) hS_M1 hT hC_M1 o_r_1 (by omega)) ?_
    rintro _ M9 ⟨rfl, h9⟩
    obtain ⟨r_2, e_r_2⟩ : ∃ x, x = fl T 1 r_1 := ⟨_, rfl⟩
    rw [← e_r_2] at h9
    rw [h9]
    have o_r_2 : rOk T r_2 := by rw [e_r_2]; exact o_r_1.f hT (by omega) (by omega)
    have i_r_2 := o_r_2.2
    show Go (Ct (d + 3)) _ yX4_readPut cX4_readPut none 0 0 28 [some (.ref 9), some (.int (iI ((gS G : Nat) : Int))), some (.int (iI (kK T r_1.1))), none, none, none] [] (rM M1 r_2)
    refine r_aload0 (pc2 := 29) dX4_readPut_28 rfl ?_
    refine r_cv0 (pc2 := 32) dX4_readPut_29 rfl vX4_108 (hK_9 hS_M1) (by decide) (c_X4_advance (d := d + 2) (M := M1) (r := r_2) hS_M1 hT hC_M1 o_r_2) ?_
    rintro _ M9 ⟨rfl, h9⟩
    obtain ⟨r_3, e_r_3⟩ : ∃ x, x = av T r_2 := ⟨_, rfl⟩
    rw [← e_r_3] at h9
    rw [h9]
    have o_r_3 : rOk T r_3 := by rw [e_r_3]; exact o_r_2.a
    have i_r_3 := o_r_3.2
    show Go (Ct (d + 3)) _ yX4_readPut cX4_readPut none 0 0 32 [some (.ref 9), some (.int (iI ((gS G : Nat) : Int))), some (.int (iI (kK T r_1.1))), none, none, none] [] (rM M1 r_3)
    refine r_iconst (pc2 := 33) dX4_readPut_32 rfl ?_
    refine r_istore3 (pc2 := 34) dX4_readPut_33 rfl rfl ?_
    refine r_iload2 (pc2 := 35) dX4_readPut_34 rfl ?_
    refine r_iconst (pc2 := 36) dX4_readPut_35 rfl ?_
    refine r_iceq (tgt := 45) (pc2 := 39) dX4_readPut_36 rfl (by decide) ⟨by omega, by omega⟩ ⟨by omega, by omega⟩ (fun b_36 => ?_) (fun b_36 => ?_)
    · refine r_aload0 (pc2 := 46) dX4_readPut_45 rfl ?_
      refine r_iconst (pc2 := 47) dX4_readPut_46 rfl ?_
      refine r_iconst (pc2 := 48) dX4_readPut_47 rfl ?_
      refine r_cv2 (pc2 := 51) dX4_readPut_48 rfl vX4_111 (hK_9 hS_M1) (by decide) (c_X4_readNumber (d := d + 1) (M := M1) (r := r_3) (lo := 0) (hi := 1) hS_M1 hT hC_M1 o_r_3 ⟨by omega, by omega⟩ ⟨by omega, by omega⟩) ?_
      rintro _ M9 ⟨z_4, hz_z_4, rfl, h9, hv_z_4⟩
      obtain ⟨z_41, z_42⟩ := hz_z_4
      obtain ⟨r_5, e_r_5⟩ : ∃ x, x = rN T 0 1 r_3 := ⟨_, rfl⟩
      rw [← e_r_5] at h9
      rw [h9]
      have o_r_5 : rOk T r_5 := by rw [e_r_5]; exact o_r_3.N hT
      have i_r_5 := o_r_5.2
      show Go (Ct (d + 3)) _ yX4_readPut cX4_readPut none 0 0 51 [some (.ref 9), some (.int (iI ((gS G : Nat) : Int))), some (.int (iI (kK T r_1.1))), some (.int (iI 0)), none, none] [.int (iI z_4)] (rM M1 r_5)
      refine r_istore3 (pc2 := 52) dX4_readPut_51 rfl rfl ?_
      refine r_goto (tgt := 85) dX4_readPut_52 (by decide) ?_
      refine r_aload0 (pc2 := 86) dX4_readPut_85 rfl ?_
      refine r_iconst (pc2 := 87) dX4_readPut_86 rfl ?_
      refine r_bipush (pc2 := 89) dX4_readPut_87 rfl (by decide) (by decide) ?_
      refine r_cv2 (pc2 := 92) dX4_readPut_89 rfl vX4_111 (hK_9 hS_M1) (by decide) (c_X4_readNumber (d := d + 1) (M := M1) (r := r_5) (lo := 0) (hi := 12) hS_M1 hT hC_M1 o_r_5 ⟨by omega, by omega⟩ ⟨by omega, by omega⟩) ?_
      rintro _ M9 ⟨z_6, hz_z_6, rfl, h9, hv_z_6⟩
      obtain ⟨z_61, z_62⟩ := hz_z_6
      obtain ⟨r_7, e_r_7⟩ : ∃ x, x = rN T 0 12 r_5 := ⟨_, rfl⟩
      rw [← e_r_7] at h9
      rw [h9]
      have o_r_7 : rOk T r_7 := by rw [e_r_7]; exact o_r_5.N hT
      have i_r_7 := o_r_7.2
      show Go (Ct (d + 3)) _ yX4_readPut cX4_readPut none 0 0 92 [some (.ref 9), some (.int (iI ((gS G : Nat) : Int))), some (.int (iI (kK T r_1.1))), some (.int (iI z_4)), none, none] [.int (iI z_6)] (rM M1 r_7)
      refine r_istore4 (pc2 := 94) dX4_readPut_92 rfl rfl ?_
      refine r_aload0 (pc2 := 95) dX4_readPut_94 rfl ?_
      refine r_iconst (pc2 := 96) dX4_readPut_95 rfl ?_
      refine r_bipush (pc2 := 98) dX4_readPut_96 rfl (by decide) (by decide) ?_
      refine r_cv2 (pc2 := 101) dX4_readPut_98 rfl vX4_111 (hK_9 hS_M1) (by decide) (c_X4_readNumber (d := d + 1) (M := M1) (r := r_7) (lo := 0) (hi := 11) hS_M1 hT hC_M1 o_r_7 ⟨by omega, by omega⟩ ⟨by omega, by omega⟩) ?_
      rintro _ M9 ⟨z_8, hz_z_8, rfl, h9, hv_z_8⟩
      obtain ⟨z_81, z_82⟩ := hz_z_8
      obtain ⟨r_9, e_r_9⟩ : ∃ x, x = rN T 0 11 r_7 := ⟨_, rfl⟩
      rw [← e_r_9] at h9
      rw [h9]
      have o_r_9 : rOk T r_9 := by rw [e_r_9]; exact o_r_7.N hT
      have i_r_9 := o_r_9.2
      show Go (Ct (d + 3)) _ yX4_readPut cX4_readPut none 0 0 101 [some (.ref 9), some (.int (iI ((gS G : Nat) : Int))), some (.int (iI (kK T r_1.1))), some (.int (iI z_4)), some (.int (iI z_6)), none] [.int (iI z_8)] (rM M1 r_9)
      refine r_istore5 (pc2 := 103) dX4_readPut_101 rfl rfl ?_
      refine r_aload0 (pc2 := 104) dX4_readPut_103 rfl ?_
      refine r_bipush (pc2 := 106) dX4_readPut_104 rfl (by decide) (by decide) ?_
      refine r_cv1 (pc2 := 109) dX4_readPut_106 rfl vX4_115 (hK_9 hS_M1) (by decide) (c_X4_readKind (d := d + 1) (M := M1) (r := r_9) (k := 59) hS_M1 hT hC_M1 o_r_9 ⟨by omega, by omega⟩) ?_
      rintro _ M9 ⟨rfl, h9⟩
      obtain ⟨r_10, e_r_10⟩ : ∃ x, x = rK T 59 r_9 := ⟨_, rfl⟩
      rw [← e_r_10] at h9
      rw [h9]
      have o_r_10 : rOk T r_10 := by rw [e_r_10]; exact o_r_9.K hT
      have i_r_10 := o_r_10.2
      show Go (Ct (d + 3)) _ yX4_readPut cX4_readPut none 0 0 109 [some (.ref 9), some (.int (iI ((gS G : Nat) : Int))), some (.int (iI (kK T r_1.1))), some (.int (iI z_4)), some (.int (iI z_6)), some (.int (iI z_8))] [] (rM M1 r_10)
      refine r_aload0 (pc2 := 110) dX4_readPut_109 rfl ?_
      refine r_iload1 (pc2 := 111) dX4_readPut_110 rfl ?_
      refine r_iload2 (pc2 := 112) dX4_readPut_111 rfl ?_
      refine r_iload3 (pc2 := 113) dX4_readPut_112 rfl ?_
      refine r_iload4 (pc2 := 115) dX4_readPut_113 rfl ?_
      refine r_iload5 (pc2 := 117) dX4_readPut_115 rfl ?_
      refine r_cv5 (pc2 := 120) dX4_readPut_117 rfl vX4_118 (hK_9 hS_M1) (by decide) (c_X4_write (d := d + 2) (M := rM M1 r_10) (i := (gS G)) (x := (kK T r_1.1)) (y := z_4) (z := z_6) (w := z_8) hS_M1 (by omega)) ?_
      rintro _ M9 ⟨rfl, h9⟩
      rw [rM_o (by omega), rM_o (by omega), rM_o (by omega), rM_o (by omega)] at h9
      obtain ⟨W11, h_W11⟩ : ∃ x, x = pI (pI (pI (pI M1 12 (gS G) (kK T r_1.1)) 13 (gS G) z_4) 14 (gS G) z_6) 15 (gS G) z_8 := ⟨_, rfl⟩
      rw [← h_W11] at h9
      rw [h9]
      have hS_W11 : sOk W11.1 := by rw [h_W11]; exact hS_M1
      have hC_W11 : cT W11 T := by rw [h_W11]; exact hC_M1
      show Go (Ct (d + 3)) _ yX4_readPut cX4_readPut none 0 0 120 [some (.ref 9), some (.int (iI ((gS G : Nat) : Int))), some (.int (iI (kK T r_1.1))), some (.int (iI z_4)), some (.int (iI z_6)), some (.int (iI z_8))] [] (rM W11 r_10)
      refine r_ret dX4_readPut_120 rfl ?_
      have c_rg : ¬ (1 ≤ kK T r_1.1 ∧ kK T r_1.1 ≤ 9) := by omega
      have c_49 : (kK T r_1.1 = 4 ∨ kK T r_1.1 = 9) := by omega
      have c_m : (kK T r_1.1 = 4 ∨ kK T r_1.1 = 9 ∨ kK T r_1.1 = 6 ∨ kK T r_1.1 = 7) := by omega
      have hl : lPut T r G = (r_10, gLine G 10 (kK T r_1.1) ((kV T r_3.1 : Nat) : Int) ((kV T r_5.1 : Nat) : Int) ((kV T r_7.1 : Nat) : Int)) := by
        unfold lPut
        dsimp only
        rw [← e_r_1, if_neg c_rg, ← e_r_2, ← e_r_3, if_pos c_49, ← e_r_5, if_pos c_m, ← e_r_7, ← e_r_9, ← e_r_10]
      rw [hl]
      have hW : W11 = _ := h_W11
      rw [h1] at hW
      refine ⟨rfl, (by rw [hW]; exact ((fr.I (((((((fr.rf.I (by decide)).I (by decide)).I (by decide)).I (by decide)).I (by decide)).I (by decide)).I (by decide)) (by decide)).I (by decide))), rfl, fun q => ⟨rfl, ?_⟩⟩
      have f_r_10 := rK_0 (k := 59) hT o_r_9 (by omega) (by rw [← e_r_10]; exact q)
      have f_r_9 := rN_0 (lo := 0) (hi := 11) hT o_r_7 (by rw [← e_r_9]; exact f_r_10.1)
      have v_z_8 := hv_z_8 (by rw [← e_r_9]; exact f_r_10.1)
      have f_r_7 := rN_0 (lo := 0) (hi := 12) hT o_r_5 (by rw [← e_r_7]; exact f_r_9.1)
      have v_z_6 := hv_z_6 (by rw [← e_r_7]; exact f_r_9.1)
      have f_r_5 := rN_0 (lo := 0) (hi := 1) hT o_r_3 (by rw [← e_r_5]; exact f_r_7.1)
      have v_z_4 := hv_z_4 (by rw [← e_r_5]; exact f_r_7.1)
      have f_r_3 : r_2.2 = 0 := av_0 (by rw [← e_r_3]; exact f_r_5.1)
      exact absurd (show (fl T 1 r_1).2 = 0 from by rw [← e_r_2]; exact f_r_3) (fl_f (by omega) i_r_1.1)
    · refine r_iload2 (pc2 := 40) dX4_readPut_39 rfl ?_
      refine r_bipush (pc2 := 42) dX4_readPut_40 rfl (by decide) (by decide) ?_
      refine r_icne (tgt := 55) (pc2 := 45) dX4_readPut_42 rfl (by decide) ⟨by omega, by omega⟩ ⟨by omega, by omega⟩ (fun b_42 => ?_) (fun b_42 => ?_)
      · refine r_iload2 (pc2 := 56) dX4_readPut_55 rfl ?_
        refine r_bipush (pc2 := 58) dX4_readPut_56 rfl (by decide) (by decide) ?_
        refine r_icne (tgt := 71) (pc2 := 61) dX4_readPut_58 rfl (by decide) ⟨by omega, by omega⟩ ⟨by omega, by omega⟩ (fun b_58 => ?_) (fun b_58 => ?_)
        · refine r_iload2 (pc2 := 72) dX4_readPut_71 rfl ?_
          refine r_bipush (pc2 := 74) dX4_readPut_72 rfl (by decide) (by decide) ?_
          refine r_icne (tgt := 85) (pc2 := 77) dX4_readPut_74 rfl (by decide) ⟨by omega, by omega⟩ ⟨by omega, by omega⟩ (fun b_74 => ?_) (fun b_74 => ?_)
          · refine r_aload0 (pc2 := 86) dX4_readPut_85 rfl ?_
            refine r_iconst (pc2 := 87) dX4_readPut_86 rfl ?_
            refine r_bipush (pc2 := 89) dX4_readPut_87 rfl (by decide) (by decide) ?_
            refine r_cv2 (pc2 := 92) dX4_readPut_89 rfl vX4_111 (hK_9 hS_M1) (by decide) (c_X4_readNumber (d := d + 1) (M := M1) (r := r_3) (lo := 0) (hi := 12) hS_M1 hT hC_M1 o_r_3 ⟨by omega, by omega⟩ ⟨by omega, by omega⟩) ?_
            rintro _ M9 ⟨z_12, hz_z_12, rfl, h9, hv_z_12⟩
            obtain ⟨z_121, z_122⟩ := hz_z_12
            obtain ⟨r_13, e_r_13⟩ : ∃ x, x = rN T 0 12 r_3 := ⟨_, rfl⟩
            rw [← e_r_13] at h9
            rw [h9]
            have o_r_13 : rOk T r_13 := by rw [e_r_13]; exact o_r_3.N hT
            have i_r_13 := o_r_13.2
            show Go (Ct (d + 3)) _ yX4_readPut cX4_readPut none 0 0 92 [some (.ref 9), some (.int (iI ((gS G : Nat) : Int))), some (.int (iI (kK T r_1.1))), some (.int (iI 0)), none, none] [.int (iI z_12)] (rM M1 r_13)
            refine r_istore4 (pc2 := 94) dX4_readPut_92 rfl rfl ?_
            refine r_aload0 (pc2 := 95) dX4_readPut_94 rfl ?_
            refine r_iconst (pc2 := 96) dX4_readPut_95 rfl ?_
            refine r_bipush (pc2 := 98) dX4_readPut_96 rfl (by decide) (by decide) ?_
            refine r_cv2 (pc2 := 101) dX4_readPut_98 rfl vX4_111 (hK_9 hS_M1) (by decide) (c_X4_readNumber (d := d + 1) (M := M1) (r := r_13) (lo := 0) (hi := 11) hS_M1 hT hC_M1 o_r_13 ⟨by omega, by omega⟩ ⟨by omega, by omega⟩) ?_
            rintro _ M9 ⟨z_14, hz_z_14, rfl, h9, hv_z_14⟩
            obtain ⟨z_141, z_142⟩ := hz_z_14
            obtain ⟨r_15, e_r_15⟩ : ∃ x, x = rN T 0 11 r_13 := ⟨_, rfl⟩
            rw [← e_r_15] at h9
            rw [h9]
            have o_r_15 : rOk T r_15 := by rw [e_r_15]; exact o_r_13.N hT
            have i_r_15 := o_r_15.2
            show Go (Ct (d + 3)) _ yX4_readPut cX4_readPut none 0 0 101 [some (.ref 9), some (.int (iI ((gS G : Nat) : Int))), some (.int (iI (kK T r_1.1))), some (.int (iI 0)), some (.int (iI z_12)), none] [.int (iI z_14)] (rM M1 r_15)
            refine r_istore5 (pc2 := 103) dX4_readPut_101 rfl rfl ?_
            refine r_aload0 (pc2 := 104) dX4_readPut_103 rfl ?_
            refine r_bipush (pc2 := 106) dX4_readPut_104 rfl (by decide) (by decide) ?_
            refine r_cv1 (pc2 := 109) dX4_readPut_106 rfl vX4_115 (hK_9 hS_M1) (by decide) (c_X4_readKind (d := d + 1) (M := M1) (r := r_15) (k := 59) hS_M1 hT hC_M1 o_r_15 ⟨by omega, by omega⟩) ?_
            rintro _ M9 ⟨rfl, h9⟩
            obtain ⟨r_16, e_r_16⟩ : ∃ x, x = rK T 59 r_15 := ⟨_, rfl⟩
            rw [← e_r_16] at h9
            rw [h9]
            have o_r_16 : rOk T r_16 := by rw [e_r_16]; exact o_r_15.K hT
            have i_r_16 := o_r_16.2
            show Go (Ct (d + 3)) _ yX4_readPut cX4_readPut none 0 0 109 [some (.ref 9), some (.int (iI ((gS G : Nat) : Int))), some (.int (iI (kK T r_1.1))), some (.int (iI 0)), some (.int (iI z_12)), some (.int (iI z_14))] [] (rM M1 r_16)
            refine r_aload0 (pc2 := 110) dX4_readPut_109 rfl ?_
            refine r_iload1 (pc2 := 111) dX4_readPut_110 rfl ?_
            refine r_iload2 (pc2 := 112) dX4_readPut_111 rfl ?_
            refine r_iload3 (pc2 := 113) dX4_readPut_112 rfl ?_
            refine r_iload4 (pc2 := 115) dX4_readPut_113 rfl ?_
            refine r_iload5 (pc2 := 117) dX4_readPut_115 rfl ?_
            refine r_cv5 (pc2 := 120) dX4_readPut_117 rfl vX4_118 (hK_9 hS_M1) (by decide) (c_X4_write (d := d + 2) (M := rM M1 r_16) (i := (gS G)) (x := (kK T r_1.1)) (y := 0) (z := z_12) (w := z_14) hS_M1 (by omega)) ?_
            rintro _ M9 ⟨rfl, h9⟩
            rw [rM_o (by omega), rM_o (by omega), rM_o (by omega), rM_o (by omega)] at h9
            obtain ⟨W17, h_W17⟩ : ∃ x, x = pI (pI (pI (pI M1 12 (gS G) (kK T r_1.1)) 13 (gS G) 0) 14 (gS G) z_12) 15 (gS G) z_14 := ⟨_, rfl⟩
            rw [← h_W17] at h9
            rw [h9]
            have hS_W17 : sOk W17.1 := by rw [h_W17]; exact hS_M1
            have hC_W17 : cT W17 T := by rw [h_W17]; exact hC_M1
            show Go (Ct (d + 3)) _ yX4_readPut cX4_readPut none 0 0 120 [some (.ref 9), some (.int (iI ((gS G : Nat) : Int))), some (.int (iI (kK T r_1.1))), some (.int (iI 0)), some (.int (iI z_12)), some (.int (iI z_14))] [] (rM W17 r_16)
            refine r_ret dX4_readPut_120 rfl ?_
            have c_rg : ¬ (1 ≤ kK T r_1.1 ∧ kK T r_1.1 ≤ 9) := by omega
            have c_49 : ¬ (kK T r_1.1 = 4 ∨ kK T r_1.1 = 9) := by omega
            have c_6 : ¬ kK T r_1.1 = 6 := by omega
            have c_7 : ¬ kK T r_1.1 = 7 := by omega
            have c_m : ¬ (kK T r_1.1 = 4 ∨ kK T r_1.1 = 9 ∨ kK T r_1.1 = 6 ∨ kK T r_1.1 = 7) := by omega
            have hl : lPut T r G = (r_16, gLine G 10 (kK T r_1.1) 0 ((kV T r_3.1 : Nat) : Int) ((kV T r_13.1 : Nat) : Int)) := by
              unfold lPut
              dsimp only
              rw [← e_r_1, if_neg c_rg, ← e_r_2, ← e_r_3, if_neg c_49, if_neg c_6, if_neg c_7, if_neg c_m, ← e_r_13, ← e_r_15, ← e_r_16]
            rw [hl]
            have hW : W17 = _ := h_W17
            rw [h1] at hW
            refine ⟨rfl, (by rw [hW]; exact ((fr.I (((((((fr.rf.I (by decide)).I (by decide)).I (by decide)).I (by decide)).I (by decide)).I (by decide)).I (by decide)) (by decide)).I (by decide))), rfl, fun q => ⟨rfl, ?_⟩⟩
            have f_r_16 := rK_0 (k := 59) hT o_r_15 (by omega) (by rw [← e_r_16]; exact q)
            have f_r_15 := rN_0 (lo := 0) (hi := 11) hT o_r_13 (by rw [← e_r_15]; exact f_r_16.1)
            have v_z_14 := hv_z_14 (by rw [← e_r_15]; exact f_r_16.1)
            have f_r_13 := rN_0 (lo := 0) (hi := 12) hT o_r_3 (by rw [← e_r_13]; exact f_r_15.1)
            have v_z_12 := hv_z_12 (by rw [← e_r_13]; exact f_r_15.1)
            have f_r_3 : r_2.2 = 0 := av_0 (by rw [← e_r_3]; exact f_r_13.1)
            exact absurd (show (fl T 1 r_1).2 = 0 from by rw [← e_r_2]; exact f_r_3) (fl_f (by omega) i_r_1.1)
          · refine r_aload0 (pc2 := 78) dX4_readPut_77 rfl ?_
            refine r_iconst (pc2 := 79) dX4_readPut_78 rfl ?_
            refine r_bipush (pc2 := 81) dX4_readPut_79 rfl (by decide) (by decide) ?_
            refine r_cv2 (pc2 := 84) dX4_readPut_81 rfl vX4_111 (hK_9 hS_M1) (by decide) (c_X4_readNumber (d := d + 1) (M := M1) (r := r_3) (lo := 2) (hi := 9) hS_M1 hT hC_M1 o_r_3 ⟨by omega, by omega⟩ ⟨by omega, by omega⟩) ?_
            rintro _ M9 ⟨z_18, hz_z_18, rfl, h9, hv_z_18⟩
            obtain ⟨z_181, z_182⟩ := hz_z_18
            obtain ⟨r_19, e_r_19⟩ : ∃ x, x = rN T 2 9 r_3 := ⟨_, rfl⟩
            rw [← e_r_19] at h9
            rw [h9]
            have o_r_19 : rOk T r_19 := by rw [e_r_19]; exact o_r_3.N hT
            have i_r_19 := o_r_19.2
            show Go (Ct (d + 3)) _ yX4_readPut cX4_readPut none 0 0 84 [some (.ref 9), some (.int (iI ((gS G : Nat) : Int))), some (.int (iI (kK T r_1.1))), some (.int (iI 0)), none, none] [.int (iI z_18)] (rM M1 r_19)
            refine r_istore3 (pc2 := 85) dX4_readPut_84 rfl rfl ?_
            refine r_aload0 (pc2 := 86) dX4_readPut_85 rfl ?_
            refine r_iconst (pc2 := 87) dX4_readPut_86 rfl ?_
            refine r_bipush (pc2 := 89) dX4_readPut_87 rfl (by decide) (by decide) ?_
            refine r_cv2 (pc2 := 92) dX4_readPut_89 rfl vX4_111 (hK_9 hS_M1) (by decide) (c_X4_readNumber (d := d + 1) (M := M1) (r := r_19) (lo := 0) (hi := 12) hS_M1 hT hC_M1 o_r_19 ⟨by omega, by omega⟩ ⟨by omega, by omega⟩) ?_
            rintro _ M9 ⟨z_20, hz_z_20, rfl, h9, hv_z_20⟩
            obtain ⟨z_201, z_202⟩ := hz_z_20
            obtain ⟨r_21, e_r_21⟩ : ∃ x, x = rN T 0 12 r_19 := ⟨_, rfl⟩
            rw [← e_r_21] at h9
            rw [h9]
            have o_r_21 : rOk T r_21 := by rw [e_r_21]; exact o_r_19.N hT
            have i_r_21 := o_r_21.2
            show Go (Ct (d + 3)) _ yX4_readPut cX4_readPut none 0 0 92 [some (.ref 9), some (.int (iI ((gS G : Nat) : Int))), some (.int (iI (kK T r_1.1))), some (.int (iI z_18)), none, none] [.int (iI z_20)] (rM M1 r_21)
            refine r_istore4 (pc2 := 94) dX4_readPut_92 rfl rfl ?_
            refine r_aload0 (pc2 := 95) dX4_readPut_94 rfl ?_
            refine r_iconst (pc2 := 96) dX4_readPut_95 rfl ?_
            refine r_bipush (pc2 := 98) dX4_readPut_96 rfl (by decide) (by decide) ?_
            refine r_cv2 (pc2 := 101) dX4_readPut_98 rfl vX4_111 (hK_9 hS_M1) (by decide) (c_X4_readNumber (d := d + 1) (M := M1) (r := r_21) (lo := 0) (hi := 11) hS_M1 hT hC_M1 o_r_21 ⟨by omega, by omega⟩ ⟨by omega, by omega⟩) ?_
            rintro _ M9 ⟨z_22, hz_z_22, rfl, h9, hv_z_22⟩
            obtain ⟨z_221, z_222⟩ := hz_z_22
            obtain ⟨r_23, e_r_23⟩ : ∃ x, x = rN T 0 11 r_21 := ⟨_, rfl⟩
            rw [← e_r_23] at h9
            rw [h9]
            have o_r_23 : rOk T r_23 := by rw [e_r_23]; exact o_r_21.N hT
            have i_r_23 := o_r_23.2
            show Go (Ct (d + 3)) _ yX4_readPut cX4_readPut none 0 0 101 [some (.ref 9), some (.int (iI ((gS G : Nat) : Int))), some (.int (iI (kK T r_1.1))), some (.int (iI z_18)), some (.int (iI z_20)), none] [.int (iI z_22)] (rM M1 r_23)
            refine r_istore5 (pc2 := 103) dX4_readPut_101 rfl rfl ?_
            refine r_aload0 (pc2 := 104) dX4_readPut_103 rfl ?_
            refine r_bipush (pc2 := 106) dX4_readPut_104 rfl (by decide) (by decide) ?_
            refine r_cv1 (pc2 := 109) dX4_readPut_106 rfl vX4_115 (hK_9 hS_M1) (by decide) (c_X4_readKind (d := d + 1) (M := M1) (r := r_23) (k := 59) hS_M1 hT hC_M1 o_r_23 ⟨by omega, by omega⟩) ?_
            rintro _ M9 ⟨rfl, h9⟩
            obtain ⟨r_24, e_r_24⟩ : ∃ x, x = rK T 59 r_23 := ⟨_, rfl⟩
            rw [← e_r_24] at h9
            rw [h9]
            have o_r_24 : rOk T r_24 := by rw [e_r_24]; exact o_r_23.K hT
            have i_r_24 := o_r_24.2
            show Go (Ct (d + 3)) _ yX4_readPut cX4_readPut none 0 0 109 [some (.ref 9), some (.int (iI ((gS G : Nat) : Int))), some (.int (iI (kK T r_1.1))), some (.int (iI z_18)), some (.int (iI z_20)), some (.int (iI z_22))] [] (rM M1 r_24)
            refine r_aload0 (pc2 := 110) dX4_readPut_109 rfl ?_
            refine r_iload1 (pc2 := 111) dX4_readPut_110 rfl ?_
            refine r_iload2 (pc2 := 112) dX4_readPut_111 rfl ?_
            refine r_iload3 (pc2 := 113) dX4_readPut_112 rfl ?_
            refine r_iload4 (pc2 := 115) dX4_readPut_113 rfl ?_
            refine r_iload5 (pc2 := 117) dX4_readPut_115 rfl ?_
            refine r_cv5 (pc2 := 120) dX4_readPut_117 rfl vX4_118 (hK_9 hS_M1) (by decide) (c_X4_write (d := d + 2) (M := rM M1 r_24) (i := (gS G)) (x := (kK T r_1.1)) (y := z_18) (z := z_20) (w := z_22) hS_M1 (by omega)) ?_
            rintro _ M9 ⟨rfl, h9⟩
            rw [rM_o (by omega), rM_o (by omega), rM_o (by omega), rM_o (by omega)] at h9
            obtain ⟨W25, h_W25⟩ : ∃ x, x = pI (pI (pI (pI M1 12 (gS G) (kK T r_1.1)) 13 (gS G) z_18) 14 (gS G) z_20) 15 (gS G) z_22 := ⟨_, rfl⟩
            rw [← h_W25] at h9
            rw [h9]
            have hS_W25 : sOk W25.1 := by rw [h_W25]; exact hS_M1
            have hC_W25 : cT W25 T := by rw [h_W25]; exact hC_M1
            show Go (Ct (d + 3)) _ yX4_readPut cX4_readPut none 0 0 120 [some (.ref 9), some (.int (iI ((gS G : Nat) : Int))), some (.int (iI (kK T r_1.1))), some (.int (iI z_18)), some (.int (iI z_20)), some (.int (iI z_22))] [] (rM W25 r_24)
            refine r_ret dX4_readPut_120 rfl ?_
            have c_rg : ¬ (1 ≤ kK T r_1.1 ∧ kK T r_1.1 ≤ 9) := by omega
            have c_49 : ¬ (kK T r_1.1 = 4 ∨ kK T r_1.1 = 9) := by omega
            have c_6 : ¬ kK T r_1.1 = 6 := by omega
            have c_7 : kK T r_1.1 = 7 := by omega
            have c_m : (kK T r_1.1 = 4 ∨ kK T r_1.1 = 9 ∨ kK T r_1.1 = 6 ∨ kK T r_1.1 = 7) := by omega
            have hl : lPut T r G = (r_24, gLine G 10 (kK T r_1.1) ((kV T r_3.1 : Nat) : Int) ((kV T r_19.1 : Nat) : Int) ((kV T r_21.1 : Nat) : Int)) := by
              unfold lPut
              dsimp only
              rw [← e_r_1, if_neg c_rg, ← e_r_2, ← e_r_3, if_neg c_49, if_neg c_6, if_pos c_7, ← e_r_19, if_pos c_m, ← e_r_21, ← e_r_23, ← e_r_24]
            rw [hl]
            have hW : W25 = _ := h_W25
            rw [h1] at hW
            refine ⟨rfl, (by rw [hW]; exact ((fr.I (((((((fr.rf.I (by decide)).I (by decide)).I (by decide)).I (by decide)).I (by decide)).I (by decide)).I (by decide)) (by decide)).I (by decide))), rfl, fun q => ⟨rfl, ?_⟩⟩
            have f_r_24 := rK_0 (k := 59) hT o_r_23 (by omega) (by rw [← e_r_24]; exact q)
            have f_r_23 := rN_0 (lo := 0) (hi := 11) hT o_r_21 (by rw [← e_r_23]; exact f_r_24.1)
            have v_z_22 := hv_z_22 (by rw [← e_r_23]; exact f_r_24.1)
            have f_r_21 := rN_0 (lo := 0) (hi := 12) hT o_r_19 (by rw [← e_r_21]; exact f_r_23.1)
            have v_z_20 := hv_z_20 (by rw [← e_r_21]; exact f_r_23.1)
            have f_r_19 := rN_0 (lo := 2) (hi := 9) hT o_r_3 (by rw [← e_r_19]; exact f_r_21.1)
            have v_z_18 := hv_z_18 (by rw [← e_r_19]; exact f_r_21.1)
            have f_r_3 : r_2.2 = 0 := av_0 (by rw [← e_r_3]; exact f_r_19.1)
            exact absurd (show (fl T 1 r_1).2 = 0 from by rw [← e_r_2]; exact f_r_3) (fl_f (by omega) i_r_1.1)
        · refine r_aload0 (pc2 := 62) dX4_readPut_61 rfl ?_
          refine r_iconst (pc2 := 63) dX4_readPut_62 rfl ?_
          refine r_iconst (pc2 := 64) dX4_readPut_63 rfl ?_
          refine r_cv2 (pc2 := 67) dX4_readPut_64 rfl vX4_111 (hK_9 hS_M1) (by decide) (c_X4_readNumber (d := d + 1) (M := M1) (r := r_3) (lo := 0) (hi := 3) hS_M1 hT hC_M1 o_r_3 ⟨by omega, by omega⟩ ⟨by omega, by omega⟩) ?_
          rintro _ M9 ⟨z_26, hz_z_26, rfl, h9, hv_z_26⟩
          obtain ⟨z_261, z_262⟩ := hz_z_26
          obtain ⟨r_27, e_r_27⟩ : ∃ x, x = rN T 0 3 r_3 := ⟨_, rfl⟩
          rw [← e_r_27] at h9
          rw [h9]
          have o_r_27 : rOk T r_27 := by rw [e_r_27]; exact o_r_3.N hT
          have i_r_27 := o_r_27.2
          show Go (Ct (d + 3)) _ yX4_readPut cX4_readPut none 0 0 67 [some (.ref 9), some (.int (iI ((gS G : Nat) : Int))), some (.int (iI (kK T r_1.1))), some (.int (iI 0)), none, none] [.int (iI z_26)] (rM M1 r_27)
          refine r_istore3 (pc2 := 68) dX4_readPut_67 rfl rfl ?_
          refine r_goto (tgt := 85) dX4_readPut_68 (by decide) ?_
          refine r_aload0 (pc2 := 86) dX4_readPut_85 rfl ?_
          refine r_iconst (pc2 := 87) dX4_readPut_86 rfl ?_
          refine r_bipush (pc2 := 89) dX4_readPut_87 rfl (by decide) (by decide) ?_
          refine r_cv2 (pc2 := 92) dX4_readPut_89 rfl vX4_111 (hK_9 hS_M1) (by decide) (c_X4_readNumber (d := d + 1) (M := M1) (r := r_27) (lo := 0) (hi := 12) hS_M1 hT hC_M1 o_r_27 ⟨by omega, by omega⟩ ⟨by omega, by omega⟩) ?_
          rintro _ M9 ⟨z_28, hz_z_28, rfl, h9, hv_z_28⟩
          obtain ⟨z_281, z_282⟩ := hz_z_28
          obtain ⟨r_29, e_r_29⟩ : ∃ x, x = rN T 0 12 r_27 := ⟨_, rfl⟩
          rw [← e_r_29] at h9
          rw [h9]
          have o_r_29 : rOk T r_29 := by rw [e_r_29]; exact o_r_27.N hT
          have i_r_29 := o_r_29.2
          show Go (Ct (d + 3)) _ yX4_readPut cX4_readPut none 0 0 92 [some (.ref 9), some (.int (iI ((gS G : Nat) : Int))), some (.int (iI (kK T r_1.1))), some (.int (iI z_26)), none, none] [.int (iI z_28)] (rM M1 r_29)
          refine r_istore4 (pc2 := 94) dX4_readPut_92 rfl rfl ?_
          refine r_aload0 (pc2 := 95) dX4_readPut_94 rfl ?_
          refine r_iconst (pc2 := 96) dX4_readPut_95 rfl ?_
          refine r_bipush (pc2 := 98) dX4_readPut_96 rfl (by decide) (by decide) ?_
          refine r_cv2 (pc2 := 101) dX4_readPut_98 rfl vX4_111 (hK_9 hS_M1) (by decide) (c_X4_readNumber (d := d + 1) (M := M1) (r := r_29) (lo := 0) (hi := 11) hS_M1 hT hC_M1 o_r_29 ⟨by omega, by omega⟩ ⟨by omega, by omega⟩) ?_
          rintro _ M9 ⟨z_30, hz_z_30, rfl, h9, hv_z_30⟩
          obtain ⟨z_301, z_302⟩ := hz_z_30
          obtain ⟨r_31, e_r_31⟩ : ∃ x, x = rN T 0 11 r_29 := ⟨_, rfl⟩
          rw [← e_r_31] at h9
          rw [h9]
          have o_r_31 : rOk T r_31 := by rw [e_r_31]; exact o_r_29.N hT
          have i_r_31 := o_r_31.2
          show Go (Ct (d + 3)) _ yX4_readPut cX4_readPut none 0 0 101 [some (.ref 9), some (.int (iI ((gS G : Nat) : Int))), some (.int (iI (kK T r_1.1))), some (.int (iI z_26)), some (.int (iI z_28)), none] [.int (iI z_30)] (rM M1 r_31)
          refine r_istore5 (pc2 := 103) dX4_readPut_101 rfl rfl ?_
          refine r_aload0 (pc2 := 104) dX4_readPut_103 rfl ?_
          refine r_bipush (pc2 := 106) dX4_readPut_104 rfl (by decide) (by decide) ?_
          refine r_cv1 (pc2 := 109) dX4_readPut_106 rfl vX4_115 (hK_9 hS_M1) (by decide) (c_X4_readKind (d := d + 1) (M := M1) (r := r_31) (k := 59) hS_M1 hT hC_M1 o_r_31 ⟨by omega, by omega⟩) ?_
          rintro _ M9 ⟨rfl, h9⟩
          obtain ⟨r_32, e_r_32⟩ : ∃ x, x = rK T 59 r_31 := ⟨_, rfl⟩
          rw [← e_r_32] at h9
          rw [h9]
          have o_r_32 : rOk T r_32 := by rw [e_r_32]; exact o_r_31.K hT
          have i_r_32 := o_r_32.2
          show Go (Ct (d + 3)) _ yX4_readPut cX4_readPut none 0 0 109 [some (.ref 9), some (.int (iI ((gS G : Nat) : Int))), some (.int (iI (kK T r_1.1))), some (.int (iI z_26)), some (.int (iI z_28)), some (.int (iI z_30))] [] (rM M1 r_32)
          refine r_aload0 (pc2 := 110) dX4_readPut_109 rfl ?_
          refine r_iload1 (pc2 := 111) dX4_readPut_110 rfl ?_
          refine r_iload2 (pc2 := 112) dX4_readPut_111 rfl ?_
          refine r_iload3 (pc2 := 113) dX4_readPut_112 rfl ?_
          refine r_iload4 (pc2 := 115) dX4_readPut_113 rfl ?_
          refine r_iload5 (pc2 := 117) dX4_readPut_115 rfl ?_
          refine r_cv5 (pc2 := 120) dX4_readPut_117 rfl vX4_118 (hK_9 hS_M1) (by decide) (c_X4_write (d := d + 2) (M := rM M1 r_32) (i := (gS G)) (x := (kK T r_1.1)) (y := z_26) (z := z_28) (w := z_30) hS_M1 (by omega)) ?_
          rintro _ M9 ⟨rfl, h9⟩
          rw [rM_o (by omega), rM_o (by omega), rM_o (by omega), rM_o (by omega)] at h9
          obtain ⟨W33, h_W33⟩ : ∃ x, x = pI (pI (pI (pI M1 12 (gS G) (kK T r_1.1)) 13 (gS G) z_26) 14 (gS G) z_28) 15 (gS G) z_30 := ⟨_, rfl⟩
          rw [← h_W33] at h9
          rw [h9]
          have hS_W33 : sOk W33.1 := by rw [h_W33]; exact hS_M1
          have hC_W33 : cT W33 T := by rw [h_W33]; exact hC_M1
          show Go (Ct (d + 3)) _ yX4_readPut cX4_readPut none 0 0 120 [some (.ref 9), some (.int (iI ((gS G : Nat) : Int))), some (.int (iI (kK T r_1.1))), some (.int (iI z_26)), some (.int (iI z_28)), some (.int (iI z_30))] [] (rM W33 r_32)
          refine r_ret dX4_readPut_120 rfl ?_
          have c_rg : ¬ (1 ≤ kK T r_1.1 ∧ kK T r_1.1 ≤ 9) := by omega
          have c_49 : ¬ (kK T r_1.1 = 4 ∨ kK T r_1.1 = 9) := by omega
          have c_6 : kK T r_1.1 = 6 := by omega
          have c_m : (kK T r_1.1 = 4 ∨ kK T r_1.1 = 9 ∨ kK T r_1.1 = 6 ∨ kK T r_1.1 = 7) := by omega
          have hl : lPut T r G = (r_32, gLine G 10 (kK T r_1.1) ((kV T r_3.1 : Nat) : Int) ((kV T r_27.1 : Nat) : Int) ((kV T r_29.1 : Nat) : Int)) := by
            unfold lPut
            dsimp only
            rw [← e_r_1, if_neg c_rg, ← e_r_2, ← e_r_3, if_neg c_49, if_pos c_6, ← e_r_27, if_pos c_m, ← e_r_29, ← e_r_31, ← e_r_32]
          rw [hl]
          have hW : W33 = _ := h_W33
          rw [h1] at hW
          refine ⟨rfl, (by rw [hW]; exact ((fr.I (((((((fr.rf.I (by decide)).I (by decide)).I (by decide)).I (by decide)).I (by decide)).I (by decide)).I (by decide)) (by decide)).I (by decide))), rfl, fun q => ⟨rfl, ?_⟩⟩
          have f_r_32 := rK_0 (k := 59) hT o_r_31 (by omega) (by rw [← e_r_32]; exact q)
          have f_r_31 := rN_0 (lo := 0) (hi := 11) hT o_r_29 (by rw [← e_r_31]; exact f_r_32.1)
          have v_z_30 := hv_z_30 (by rw [← e_r_31]; exact f_r_32.1)
          have f_r_29 := rN_0 (lo := 0) (hi := 12) hT o_r_27 (by rw [← e_r_29]; exact f_r_31.1)
          have v_z_28 := hv_z_28 (by rw [← e_r_29]; exact f_r_31.1)
          have f_r_27 := rN_0 (lo := 0) (hi := 3) hT o_r_3 (by rw [← e_r_27]; exact f_r_29.1)
          have v_z_26 := hv_z_26 (by rw [← e_r_27]; exact f_r_29.1)
          have f_r_3 : r_2.2 = 0 := av_0 (by rw [← e_r_3]; exact f_r_27.1)
          exact absurd (show (fl T 1 r_1).2 = 0 from by rw [← e_r_2]; exact f_r_3) (fl_f (by omega) i_r_1.1)
      · refine r_aload0 (pc2 := 46) dX4_readPut_45 rfl ?_
        refine r_iconst (pc2 := 47) dX4_readPut_46 rfl ?_
        refine r_iconst (pc2 := 48) dX4_readPut_47 rfl ?_
        refine r_cv2 (pc2 := 51) dX4_readPut_48 rfl vX4_111 (hK_9 hS_M1) (by decide) (c_X4_readNumber (d := d + 1) (M := M1) (r := r_3) (lo := 0) (hi := 1) hS_M1 hT hC_M1 o_r_3 ⟨by omega, by omega⟩ ⟨by omega, by omega⟩) ?_
        rintro _ M9 ⟨z_34, hz_z_34, rfl, h9, hv_z_34⟩
        obtain ⟨z_341, z_342⟩ := hz_z_34
        obtain ⟨r_35, e_r_35⟩ : ∃ x, x = rN T 0 1 r_3 := ⟨_, rfl⟩
        rw [← e_r_35] at h9
        rw [h9]
        have o_r_35 : rOk T r_35 := by rw [e_r_35]; exact o_r_3.N hT
        have i_r_35 := o_r_35.2
        show Go (Ct (d + 3)) _ yX4_readPut cX4_readPut none 0 0 51 [some (.ref 9), some (.int (iI ((gS G : Nat) : Int))), some (.int (iI (kK T r_1.1))), some (.int (iI 0)), none, none] [.int (iI z_34)] (rM M1 r_35)
        refine r_istore3 (pc2 := 52) dX4_readPut_51 rfl rfl ?_
        refine r_goto (tgt := 85) dX4_readPut_52 (by decide) ?_
        refine r_aload0 (pc2 := 86) dX4_readPut_85 rfl ?_
        refine r_iconst (pc2 := 87) dX4_readPut_86 rfl ?_
        refine r_bipush (pc2 := 89) dX4_readPut_87 rfl (by decide) (by decide) ?_
        refine r_cv2 (pc2 := 92) dX4_readPut_89 rfl vX4_111 (hK_9 hS_M1) (by decide) (c_X4_readNumber (d := d + 1) (M := M1) (r := r_35) (lo := 0) (hi := 12) hS_M1 hT hC_M1 o_r_35 ⟨by omega, by omega⟩ ⟨by omega, by omega⟩) ?_
        rintro _ M9 ⟨z_36, hz_z_36, rfl, h9, hv_z_36⟩
        obtain ⟨z_361, z_362⟩ := hz_z_36
        obtain ⟨r_37, e_r_37⟩ : ∃ x, x = rN T 0 12 r_35 := ⟨_, rfl⟩
        rw [← e_r_37] at h9
        rw [h9]
        have o_r_37 : rOk T r_37 := by rw [e_r_37]; exact o_r_35.N hT
        have i_r_37 := o_r_37.2
        show Go (Ct (d + 3)) _ yX4_readPut cX4_readPut none 0 0 92 [some (.ref 9), some (.int (iI ((gS G : Nat) : Int))), some (.int (iI (kK T r_1.1))), some (.int (iI z_34)), none, none] [.int (iI z_36)] (rM M1 r_37)
        refine r_istore4 (pc2 := 94) dX4_readPut_92 rfl rfl ?_
        refine r_aload0 (pc2 := 95) dX4_readPut_94 rfl ?_
        refine r_iconst (pc2 := 96) dX4_readPut_95 rfl ?_
        refine r_bipush (pc2 := 98) dX4_readPut_96 rfl (by decide) (by decide) ?_
        refine r_cv2 (pc2 := 101) dX4_readPut_98 rfl vX4_111 (hK_9 hS_M1) (by decide) (c_X4_readNumber (d := d + 1) (M := M1) (r := r_37) (lo := 0) (hi := 11) hS_M1 hT hC_M1 o_r_37 ⟨by omega, by omega⟩ ⟨by omega, by omega⟩) ?_
        rintro _ M9 ⟨z_38, hz_z_38, rfl, h9, hv_z_38⟩
        obtain ⟨z_381, z_382⟩ := hz_z_38
        obtain ⟨r_39, e_r_39⟩ : ∃ x, x = rN T 0 11 r_37 := ⟨_, rfl⟩
        rw [← e_r_39] at h9
        rw [h9]
        have o_r_39 : rOk T r_39 := by rw [e_r_39]; exact o_r_37.N hT
        have i_r_39 := o_r_39.2
        show Go (Ct (d + 3)) _ yX4_readPut cX4_readPut none 0 0 101 [some (.ref 9), some (.int (iI ((gS G : Nat) : Int))), some (.int (iI (kK T r_1.1))), some (.int (iI z_34)), some (.int (iI z_36)), none] [.int (iI z_38)] (rM M1 r_39)
        refine r_istore5 (pc2 := 103) dX4_readPut_101 rfl rfl ?_
        refine r_aload0 (pc2 := 104) dX4_readPut_103 rfl ?_
        refine r_bipush (pc2 := 106) dX4_readPut_104 rfl (by decide) (by decide) ?_
        refine r_cv1 (pc2 := 109) dX4_readPut_106 rfl vX4_115 (hK_9 hS_M1) (by decide) (c_X4_readKind (d := d + 1) (M := M1) (r := r_39) (k := 59) hS_M1 hT hC_M1 o_r_39 ⟨by omega, by omega⟩) ?_
        rintro _ M9 ⟨rfl, h9⟩
        obtain ⟨r_40, e_r_40⟩ : ∃ x, x = rK T 59 r_39 := ⟨_, rfl⟩
        rw [← e_r_40] at h9
        rw [h9]
        have o_r_40 : rOk T r_40 := by rw [e_r_40]; exact o_r_39.K hT
        have i_r_40 := o_r_40.2
        show Go (Ct (d + 3)) _ yX4_readPut cX4_readPut none 0 0 109 [some (.ref 9), some (.int (iI ((gS G : Nat) : Int))), some (.int (iI (kK T r_1.1))), some (.int (iI z_34)), some (.int (iI z_36)), some (.int (iI z_38))] [] (rM M1 r_40)
        refine r_aload0 (pc2 := 110) dX4_readPut_109 rfl ?_
        refine r_iload1 (pc2 := 111) dX4_readPut_110 rfl ?_
        refine r_iload2 (pc2 := 112) dX4_readPut_111 rfl ?_
        refine r_iload3 (pc2 := 113) dX4_readPut_112 rfl ?_
        refine r_iload4 (pc2 := 115) dX4_readPut_113 rfl ?_
        refine r_iload5 (pc2 := 117) dX4_readPut_115 rfl ?_
        refine r_cv5 (pc2 := 120) dX4_readPut_117 rfl vX4_118 (hK_9 hS_M1) (by decide) (c_X4_write (d := d + 2) (M := rM M1 r_40) (i := (gS G)) (x := (kK T r_1.1)) (y := z_34) (z := z_36) (w := z_38) hS_M1 (by omega)) ?_
        rintro _ M9 ⟨rfl, h9⟩
        rw [rM_o (by omega), rM_o (by omega), rM_o (by omega), rM_o (by omega)] at h9
        obtain ⟨W41, h_W41⟩ : ∃ x, x = pI (pI (pI (pI M1 12 (gS G) (kK T r_1.1)) 13 (gS G) z_34) 14 (gS G) z_36) 15 (gS G) z_38 := ⟨_, rfl⟩
        rw [← h_W41] at h9
        rw [h9]
        have hS_W41 : sOk W41.1 := by rw [h_W41]; exact hS_M1
        have hC_W41 : cT W41 T := by rw [h_W41]; exact hC_M1
        show Go (Ct (d + 3)) _ yX4_readPut cX4_readPut none 0 0 120 [some (.ref 9), some (.int (iI ((gS G : Nat) : Int))), some (.int (iI (kK T r_1.1))), some (.int (iI z_34)), some (.int (iI z_36)), some (.int (iI z_38))] [] (rM W41 r_40)
        refine r_ret dX4_readPut_120 rfl ?_
        have c_rg : ¬ (1 ≤ kK T r_1.1 ∧ kK T r_1.1 ≤ 9) := by omega
        have c_49 : (kK T r_1.1 = 4 ∨ kK T r_1.1 = 9) := by omega
        have c_m : (kK T r_1.1 = 4 ∨ kK T r_1.1 = 9 ∨ kK T r_1.1 = 6 ∨ kK T r_1.1 = 7) := by omega
        have hl : lPut T r G = (r_40, gLine G 10 (kK T r_1.1) ((kV T r_3.1 : Nat) : Int) ((kV T r_35.1 : Nat) : Int) ((kV T r_37.1 : Nat) : Int)) := by
          unfold lPut
          dsimp only
          rw [← e_r_1, if_neg c_rg, ← e_r_2, ← e_r_3, if_pos c_49, ← e_r_35, if_pos c_m, ← e_r_37, ← e_r_39, ← e_r_40]
        rw [hl]
        have hW : W41 = _ := h_W41
        rw [h1] at hW
        refine ⟨rfl, (by rw [hW]; exact ((fr.I (((((((fr.rf.I (by decide)).I (by decide)).I (by decide)).I (by decide)).I (by decide)).I (by decide)).I (by decide)) (by decide)).I (by decide))), rfl, fun q => ⟨rfl, ?_⟩⟩
        have f_r_40 := rK_0 (k := 59) hT o_r_39 (by omega) (by rw [← e_r_40]; exact q)
        have f_r_39 := rN_0 (lo := 0) (hi := 11) hT o_r_37 (by rw [← e_r_39]; exact f_r_40.1)
        have v_z_38 := hv_z_38 (by rw [← e_r_39]; exact f_r_40.1)
        have f_r_37 := rN_0 (lo := 0) (hi := 12) hT o_r_35 (by rw [← e_r_37]; exact f_r_39.1)
        have v_z_36 := hv_z_36 (by rw [← e_r_37]; exact f_r_39.1)
        have f_r_35 := rN_0 (lo := 0) (hi := 1) hT o_r_3 (by rw [← e_r_35]; exact f_r_37.1)
        have v_z_34 := hv_z_34 (by rw [← e_r_35]; exact f_r_37.1)
        have f_r_3 : r_2.2 = 0 := av_0 (by rw [← e_r_3]; exact f_r_35.1)
        exact absurd (show (fl T 1 r_1).2 = 0 from by rw [← e_r_2]; exact f_r_3) (fl_f (by omega) i_r_1.1)
  · refine r_iload2 (pc2 := 18) dX4_readPut_17 rfl ?_
    refine r_bipush (pc2 := 20) dX4_readPut_18 rfl (by decide) (by decide) ?_
    refine r_icle (tgt := 28) (pc2 := 23) dX4_readPut_20 rfl (by decide) ⟨by omega, by omega⟩ ⟨by omega, by omega⟩ (fun b_20 => ?_) (fun b_20 => ?_)
    · refine r_aload0 (pc2 := 29) dX4_readPut_28 rfl ?_
      refine r_cv0 (pc2 := 32) dX4_readPut_29 rfl vX4_108 (hK_9 hS_M1) (by decide) (c_X4_advance (d := d + 2) (M := M1) (r := r_1) hS_M1 hT hC_M1 o_r_1) ?_
      rintro _ M9 ⟨rfl, h9⟩
      obtain ⟨r_42, e_r_42⟩ : ∃ x, x = av T r_1 := ⟨_, rfl⟩
      rw [← e_r_42] at h9
      rw [h9]
      have o_r_42 : rOk T r_42 := by rw [e_r_42]; exact o_r_1.a
      have i_r_42 := o_r_42.2
      show Go (Ct (d + 3)) _ yX4_readPut cX4_readPut none 0 0 32 [some (.ref 9), some (.int (iI ((gS G : Nat) : Int))), some (.int (iI (kK T r_1.1))), none, none, none] [] (rM M1 r_42)
      refine r_iconst (pc2 := 33) dX4_readPut_32 rfl ?_
      refine r_istore3 (pc2 := 34) dX4_readPut_33 rfl rfl ?_
      refine r_iload2 (pc2 := 35) dX4_readPut_34 rfl ?_
      refine r_iconst (pc2 := 36) dX4_readPut_35 rfl ?_
      refine r_iceq (tgt := 45) (pc2 := 39) dX4_readPut_36 rfl (by decide) ⟨by omega, by omega⟩ ⟨by omega, by omega⟩ (fun b_36 => ?_) (fun b_36 => ?_)
      · refine r_aload0 (pc2 := 46) dX4_readPut_45 rfl ?_
        refine r_iconst (pc2 := 47) dX4_readPut_46 rfl ?_
        refine r_iconst (pc2 := 48) dX4_readPut_47 rfl ?_
        refine r_cv2 (pc2 := 51) dX4_readPut_48 rfl vX4_111 (hK_9 hS_M1) (by decide) (c_X4_readNumber (d := d + 1) (M := M1) (r := r_42) (lo := 0) (hi := 1) hS_M1 hT hC_M1 o_r_42 ⟨by omega, by omega⟩ ⟨by omega, by omega⟩) ?_
        rintro _ M9 ⟨z_43, hz_z_43, rfl, h9, hv_z_43⟩
        obtain ⟨z_431, z_432⟩ := hz_z_43
        obtain ⟨r_44, e_r_44⟩ : ∃ x, x = rN T 0 1 r_42 := ⟨_, rfl⟩
        rw [← e_r_44] at h9
        rw [h9]
        have o_r_44 : rOk T r_44 := by rw [e_r_44]; exact o_r_42.N hT
        have i_r_44 := o_r_44.2
        show Go (Ct (d + 3)) _ yX4_readPut cX4_readPut none 0 0 51 [some (.ref 9), some (.int (iI ((gS G : Nat) : Int))), some (.int (iI (kK T r_1.1))), some (.int (iI 0)), none, none] [.int (iI z_43)] (rM M1 r_44)
        refine r_istore3 (pc2 := 52) dX4_readPut_51 rfl rfl ?_
        refine r_goto (tgt := 85) dX4_readPut_52 (by decide) ?_
        refine r_aload0 (pc2 := 86) dX4_readPut_85 rfl ?_
        refine r_iconst (pc2 := 87) dX4_readPut_86 rfl ?_
        refine r_bipush (pc2 := 89) dX4_readPut_87 rfl (by decide) (by decide) ?_
        refine r_cv2 (pc2 := 92) dX4_readPut_89 rfl vX4_111 (hK_9 hS_M1) (by decide) (c_X4_readNumber (d := d + 1) (M := M1) (r := r_44) (lo := 0) (hi := 12) hS_M1 hT hC_M1 o_r_44 ⟨by omega, by omega⟩ ⟨by omega, by omega⟩) ?_
        rintro _ M9 ⟨z_45, hz_z_45, rfl, h9, hv_z_45⟩
        obtain ⟨z_451, z_452⟩ := hz_z_45
        obtain ⟨r_46, e_r_46⟩ : ∃ x, x = rN T 0 12 r_44 := ⟨_, rfl⟩
        rw [← e_r_46] at h9
        rw [h9]
        have o_r_46 : rOk T r_46 := by rw [e_r_46]; exact o_r_44.N hT
        have i_r_46 := o_r_46.2
        show Go (Ct (d + 3)) _ yX4_readPut cX4_readPut none 0 0 92 [some (.ref 9), some (.int (iI ((gS G : Nat) : Int))), some (.int (iI (kK T r_1.1))), some (.int (iI z_43)), none, none] [.int (iI z_45)] (rM M1 r_46)
        refine r_istore4 (pc2 := 94) dX4_readPut_92 rfl rfl ?_
        refine r_aload0 (pc2 := 95) dX4_readPut_94 rfl ?_
        refine r_iconst (pc2 := 96) dX4_readPut_95 rfl ?_
        refine r_bipush (pc2 := 98) dX4_readPut_96 rfl (by decide) (by decide) ?_
        refine r_cv2 (pc2 := 101) dX4_readPut_98 rfl vX4_111 (hK_9 hS_M1) (by decide) (c_X4_readNumber (d := d + 1) (M := M1) (r := r_46) (lo := 0) (hi := 11) hS_M1 hT hC_M1 o_r_46 ⟨by omega, by omega⟩ ⟨by omega, by omega⟩) ?_
        rintro _ M9 ⟨z_47, hz_z_47, rfl, h9, hv_z_47⟩
        obtain ⟨z_471, z_472⟩ := hz_z_47
        obtain ⟨r_48, e_r_48⟩ : ∃ x, x = rN T 0 11 r_46 := ⟨_, rfl⟩
        rw [← e_r_48] at h9
        rw [h9]
        have o_r_48 : rOk T r_48 := by rw [e_r_48]; exact o_r_46.N hT
        have i_r_48 := o_r_48.2
        show Go (Ct (d + 3)) _ yX4_readPut cX4_readPut none 0 0 101 [some (.ref 9), some (.int (iI ((gS G : Nat) : Int))), some (.int (iI (kK T r_1.1))), some (.int (iI z_43)), some (.int (iI z_45)), none] [.int (iI z_47)] (rM M1 r_48)
        refine r_istore5 (pc2 := 103) dX4_readPut_101 rfl rfl ?_
        refine r_aload0 (pc2 := 104) dX4_readPut_103 rfl ?_
        refine r_bipush (pc2 := 106) dX4_readPut_104 rfl (by decide) (by decide) ?_
        refine r_cv1 (pc2 := 109) dX4_readPut_106 rfl vX4_115 (hK_9 hS_M1) (by decide) (c_X4_readKind (d := d + 1) (M := M1) (r := r_48) (k := 59) hS_M1 hT hC_M1 o_r_48 ⟨by omega, by omega⟩) ?_
        rintro _ M9 ⟨rfl, h9⟩
        obtain ⟨r_49, e_r_49⟩ : ∃ x, x = rK T 59 r_48 := ⟨_, rfl⟩
        rw [← e_r_49] at h9
        rw [h9]
        have o_r_49 : rOk T r_49 := by rw [e_r_49]; exact o_r_48.K hT
        have i_r_49 := o_r_49.2
        show Go (Ct (d + 3)) _ yX4_readPut cX4_readPut none 0 0 109 [some (.ref 9), some (.int (iI ((gS G : Nat) : Int))), some (.int (iI (kK T r_1.1))), some (.int (iI z_43)), some (.int (iI z_45)), some (.int (iI z_47))] [] (rM M1 r_49)
        refine r_aload0 (pc2 := 110) dX4_readPut_109 rfl ?_
        refine r_iload1 (pc2 := 111) dX4_readPut_110 rfl ?_
        refine r_iload2 (pc2 := 112) dX4_readPut_111 rfl ?_
        refine r_iload3 (pc2 := 113) dX4_readPut_112 rfl ?_
        refine r_iload4 (pc2 := 115) dX4_readPut_113 rfl ?_
        refine r_iload5 (pc2 := 117) dX4_readPut_115 rfl ?_
        refine r_cv5 (pc2 := 120) dX4_readPut_117 rfl vX4_118 (hK_9 hS_M1) (by decide) (c_X4_write (d := d + 2) (M := rM M1 r_49) (i := (gS G)) (x := (kK T r_1.1)) (y := z_43) (z := z_45) (w := z_47) hS_M1 (by omega)) ?_
        rintro _ M9 ⟨rfl, h9⟩
        rw [rM_o (by omega), rM_o (by omega), rM_o (by omega), rM_o (by omega)] at h9
        obtain ⟨W50, h_W50⟩ : ∃ x, x = pI (pI (pI (pI M1 12 (gS G) (kK T r_1.1)) 13 (gS G) z_43) 14 (gS G) z_45) 15 (gS G) z_47 := ⟨_, rfl⟩
        rw [← h_W50] at h9
        rw [h9]
        have hS_W50 : sOk W50.1 := by rw [h_W50]; exact hS_M1
        have hC_W50 : cT W50 T := by rw [h_W50]; exact hC_M1
        show Go (Ct (d + 3)) _ yX4_readPut cX4_readPut none 0 0 120 [some (.ref 9), some (.int (iI ((gS G : Nat) : Int))), some (.int (iI (kK T r_1.1))), some (.int (iI z_43)), some (.int (iI z_45)), some (.int (iI z_47))] [] (rM W50 r_49)
        refine r_ret dX4_readPut_120 rfl ?_
        have c_rg : (1 ≤ kK T r_1.1 ∧ kK T r_1.1 ≤ 9) := by omega
        have c_49 : (kK T r_1.1 = 4 ∨ kK T r_1.1 = 9) := by omega
        have c_m : (kK T r_1.1 = 4 ∨ kK T r_1.1 = 9 ∨ kK T r_1.1 = 6 ∨ kK T r_1.1 = 7) := by omega
        have hl : lPut T r G = (r_49, gLine G 10 (kK T r_1.1) ((kV T r_42.1 : Nat) : Int) ((kV T r_44.1 : Nat) : Int) ((kV T r_46.1 : Nat) : Int)) := by
          unfold lPut
          dsimp only
          rw [← e_r_1, if_pos c_rg, ← e_r_42, if_pos c_49, ← e_r_44, if_pos c_m, ← e_r_46, ← e_r_48, ← e_r_49]
        rw [hl]
        have hW : W50 = _ := h_W50
        rw [h1] at hW
        refine ⟨rfl, (by rw [hW]; exact ((fr.I (((((((fr.rf.I (by decide)).I (by decide)).I (by decide)).I (by decide)).I (by decide)).I (by decide)).I (by decide)) (by decide)).I (by decide))), rfl, fun q => ⟨rfl, ?_⟩⟩
        have f_r_49 := rK_0 (k := 59) hT o_r_48 (by omega) (by rw [← e_r_49]; exact q)
        have f_r_48 := rN_0 (lo := 0) (hi := 11) hT o_r_46 (by rw [← e_r_48]; exact f_r_49.1)
        have v_z_47 := hv_z_47 (by rw [← e_r_48]; exact f_r_49.1)
        have f_r_46 := rN_0 (lo := 0) (hi := 12) hT o_r_44 (by rw [← e_r_46]; exact f_r_48.1)
        have v_z_45 := hv_z_45 (by rw [← e_r_46]; exact f_r_48.1)
        have f_r_44 := rN_0 (lo := 0) (hi := 1) hT o_r_42 (by rw [← e_r_44]; exact f_r_46.1)
        have v_z_43 := hv_z_43 (by rw [← e_r_44]; exact f_r_46.1)
        have f_r_42 : r_1.2 = 0 := av_0 (by rw [← e_r_42]; exact f_r_44.1)
        have f_r_1 : r.2 = 0 := av_0 (by rw [← e_r_1]; exact f_r_42)
        rw [hW, v_z_43, v_z_45, v_z_47]
        exact (CG.line hG hg).r
      · refine r_iload2 (pc2 := 40) dX4_readPut_39 rfl ?_
        refine r_bipush (pc2 := 42) dX4_readPut_40 rfl (by decide) (by decide) ?_
        refine r_icne (tgt := 55) (pc2 := 45) dX4_readPut_42 rfl (by decide) ⟨by omega, by omega⟩ ⟨by omega, by omega⟩ (fun b_42 => ?_) (fun b_42 => ?_)
        · refine r_iload2 (pc2 := 56) dX4_readPut_55 rfl ?_
          refine r_bipush (pc2 := 58) dX4_readPut_56 rfl (by decide) (by decide) ?_
          refine r_icne (tgt := 71) (pc2 := 61) dX4_readPut_58 rfl (by decide) ⟨by omega, by omega⟩ ⟨by omega, by omega⟩ (fun b_58 => ?_) (fun b_58 => ?_)
          · refine r_iload2 (pc2 := 72) dX4_readPut_71 rfl ?_
            refine r_bipush (pc2 := 74) dX4_readPut_72 rfl (by decide) (by decide) ?_
            refine r_icne (tgt := 85) (pc2 := 77) dX4_readPut_74 rfl (by decide) ⟨by omega, by omega⟩ ⟨by omega, by omega⟩ (fun b_74 => ?_) (fun b_74 => ?_)
            · refine r_aload0 (pc2 := 86) dX4_readPut_85 rfl ?_
              refine r_iconst (pc2 := 87) dX4_readPut_86 rfl ?_
              refine r_bipush (pc2 := 89) dX4_readPut_87 rfl (by decide) (by decide) ?_
              refine r_cv2 (pc2 := 92) dX4_readPut_89 rfl vX4_111 (hK_9 hS_M1) (by decide) (c_X4_readNumber (d := d + 1) (M := M1) (r := r_42) (lo := 0) (hi := 12) hS_M1 hT hC_M1 o_r_42 ⟨by omega, by omega⟩ ⟨by omega, by omega⟩) ?_
              rintro _ M9 ⟨z_51, hz_z_51, rfl, h9, hv_z_51⟩
              obtain ⟨z_511, z_512⟩ := hz_z_51
              obtain ⟨r_52, e_r_52⟩ : ∃ x, x = rN T 0 12 r_42 := ⟨_, rfl⟩
              rw [← e_r_52] at h9
              rw [h9]
              have o_r_52 : rOk T r_52 := by rw [e_r_52]; exact o_r_42.N hT
              have i_r_52 := o_r_52.2
              show Go (Ct (d + 3)) _ yX4_readPut cX4_readPut none 0 0 92 [some (.ref 9), some (.int (iI ((gS G : Nat) : Int))), some (.int (iI (kK T r_1.1))), some (.int (iI 0)), none, none] [.int (iI z_51)] (rM M1 r_52)
              refine r_istore4 (pc2 := 94) dX4_readPut_92 rfl rfl ?_
              refine r_aload0 (pc2 := 95) dX4_readPut_94 rfl ?_
              refine r_iconst (pc2 := 96) dX4_readPut_95 rfl ?_
              refine r_bipush (pc2 := 98) dX4_readPut_96 rfl (by decide) (by decide) ?_
              refine r_cv2 (pc2 := 101) dX4_readPut_98 rfl vX4_111 (hK_9 hS_M1) (by decide) (c_X4_readNumber (d := d + 1) (M := M1) (r := r_52) (lo := 0) (hi := 11) hS_M1 hT hC_M1 o_r_52 ⟨by omega, by omega⟩ ⟨by omega, by omega⟩) ?_
              rintro _ M9 ⟨z_53, hz_z_53, rfl, h9, hv_z_53⟩
              obtain ⟨z_531, z_532⟩ := hz_z_53
              obtain ⟨r_54, e_r_54⟩ : ∃ x, x = rN T 0 11 r_52 := ⟨_, rfl⟩
              rw [← e_r_54] at h9
              rw [h9]
              have o_r_54 : rOk T r_54 := by rw [e_r_54]; exact o_r_52.N hT
              have i_r_54 := o_r_54.2
              show Go (Ct (d + 3)) _ yX4_readPut cX4_readPut none 0 0 101 [some (.ref 9), some (.int (iI ((gS G : Nat) : Int))), some (.int (iI (kK T r_1.1))), some (.int (iI 0)), some (.int (iI z_51)), none] [.int (iI z_53)] (rM M1 r_54)
              refine r_istore5 (pc2 := 103) dX4_readPut_101 rfl rfl ?_
              refine r_aload0 (pc2 := 104) dX4_readPut_103 rfl ?_
              refine r_bipush (pc2 := 106) dX4_readPut_104 rfl (by decide) (by decide) ?_
              refine r_cv1 (pc2 := 109) dX4_readPut_106 rfl vX4_115 (hK_9 hS_M1) (by decide) (c_X4_readKind (d := d + 1) (M := M1) (r := r_54) (k := 59) hS_M1 hT hC_M1 o_r_54 ⟨by omega, by omega⟩) ?_
              rintro _ M9 ⟨rfl, h9⟩
              obtain ⟨r_55, e_r_55⟩ : ∃ x, x = rK T 59 r_54 := ⟨_, rfl⟩
              rw [← e_r_55] at h9
              rw [h9]
              have o_r_55 : rOk T r_55 := by rw [e_r_55]; exact o_r_54.K hT
              have i_r_55 := o_r_55.2
              show Go (Ct (d + 3)) _ yX4_readPut cX4_readPut none 0 0 109 [some (.ref 9), some (.int (iI ((gS G : Nat) : Int))), some (.int (iI (kK T r_1.1))), some (.int (iI 0)), some (.int (iI z_51)), some (.int (iI z_53))] [] (rM M1 r_55)
              refine r_aload0 (pc2 := 110) dX4_readPut_109 rfl ?_
              refine r_iload1 (pc2 := 111) dX4_readPut_110 rfl ?_
              refine r_iload2 (pc2 := 112) dX4_readPut_111 rfl ?_
              refine r_iload3 (pc2 := 113) dX4_readPut_112 rfl ?_
              refine r_iload4 (pc2 := 115) dX4_readPut_113 rfl ?_
              refine r_iload5 (pc2 := 117) dX4_readPut_115 rfl ?_
              refine r_cv5 (pc2 := 120) dX4_readPut_117 rfl vX4_118 (hK_9 hS_M1) (by decide) (c_X4_write (d := d + 2) (M := rM M1 r_55) (i := (gS G)) (x := (kK T r_1.1)) (y := 0) (z := z_51) (w := z_53) hS_M1 (by omega)) ?_
              rintro _ M9 ⟨rfl, h9⟩
              rw [rM_o (by omega), rM_o (by omega), rM_o (by omega), rM_o (by omega)] at h9
              obtain ⟨W56, h_W56⟩ : ∃ x, x = pI (pI (pI (pI M1 12 (gS G) (kK T r_1.1)) 13 (gS G) 0) 14 (gS G) z_51) 15 (gS G) z_53 := ⟨_, rfl⟩
              rw [← h_W56] at h9
              rw [h9]
              have hS_W56 : sOk W56.1 := by rw [h_W56]; exact hS_M1
              have hC_W56 : cT W56 T := by rw [h_W56]; exact hC_M1
              show Go (Ct (d + 3)) _ yX4_readPut cX4_readPut none 0 0 120 [some (.ref 9), some (.int (iI ((gS G : Nat) : Int))), some (.int (iI (kK T r_1.1))), some (.int (iI 0)), some (.int (iI z_51)), some (.int (iI z_53))] [] (rM W56 r_55)
              refine r_ret dX4_readPut_120 rfl ?_
              have c_rg : (1 ≤ kK T r_1.1 ∧ kK T r_1.1 ≤ 9) := by omega
              have c_49 : ¬ (kK T r_1.1 = 4 ∨ kK T r_1.1 = 9) := by omega
              have c_6 : ¬ kK T r_1.1 = 6 := by omega
              have c_7 : ¬ kK T r_1.1 = 7 := by omega
              have c_m : ¬ (kK T r_1.1 = 4 ∨ kK T r_1.1 = 9 ∨ kK T r_1.1 = 6 ∨ kK T r_1.1 = 7) := by omega
              have hl : lPut T r G = (r_55, gLine G 10 (kK T r_1.1) 0 ((kV T r_42.1 : Nat) : Int) ((kV T r_52.1 : Nat) : Int)) := by
                unfold lPut
                dsimp only
                rw [← e_r_1, if_pos c_rg, ← e_r_42, if_neg c_49, if_neg c_6, if_neg c_7, if_neg c_m, ← e_r_52, ← e_r_54, ← e_r_55]
              rw [hl]
              have hW : W56 = _ := h_W56
              rw [h1] at hW
              refine ⟨rfl, (by rw [hW]; exact ((fr.I (((((((fr.rf.I (by decide)).I (by decide)).I (by decide)).I (by decide)).I (by decide)).I (by decide)).I (by decide)) (by decide)).I (by decide))), rfl, fun q => ⟨rfl, ?_⟩⟩
              have f_r_55 := rK_0 (k := 59) hT o_r_54 (by omega) (by rw [← e_r_55]; exact q)
              have f_r_54 := rN_0 (lo := 0) (hi := 11) hT o_r_52 (by rw [← e_r_54]; exact f_r_55.1)
              have v_z_53 := hv_z_53 (by rw [← e_r_54]; exact f_r_55.1)
              have f_r_52 := rN_0 (lo := 0) (hi := 12) hT o_r_42 (by rw [← e_r_52]; exact f_r_54.1)
              have v_z_51 := hv_z_51 (by rw [← e_r_52]; exact f_r_54.1)
              have f_r_42 : r_1.2 = 0 := av_0 (by rw [← e_r_42]; exact f_r_52.1)
              have f_r_1 : r.2 = 0 := av_0 (by rw [← e_r_1]; exact f_r_42)
              rw [hW, v_z_51, v_z_53]
              exact (CG.line hG hg).r
            · refine r_aload0 (pc2 := 78) dX4_readPut_77 rfl ?_
              refine r_iconst (pc2 := 79) dX4_readPut_78 rfl ?_
              refine r_bipush (pc2 := 81) dX4_readPut_79 rfl (by decide) (by decide) ?_
              refine r_cv2 (pc2 := 84) dX4_readPut_81 rfl vX4_111 (hK_9 hS_M1) (by decide) (c_X4_readNumber (d := d + 1) (M := M1) (r := r_42) (lo := 2) (hi := 9) hS_M1 hT hC_M1 o_r_42 ⟨by omega, by omega⟩ ⟨by omega, by omega⟩) ?_
              rintro _ M9 ⟨z_57, hz_z_57, rfl, h9, hv_z_57⟩
              obtain ⟨z_571, z_572⟩ := hz_z_57
              obtain ⟨r_58, e_r_58⟩ : ∃ x, x = rN T 2 9 r_42 := ⟨_, rfl⟩
              rw [← e_r_58] at h9
              rw [h9]
              have o_r_58 : rOk T r_58 := by rw [e_r_58]; exact o_r_42.N hT
              have i_r_58 := o_r_58.2
              show Go (Ct (d + 3)) _ yX4_readPut cX4_readPut none 0 0 84 [some (.ref 9), some (.int (iI ((gS G : Nat) : Int))), some (.int (iI (kK T r_1.1))), some (.int (iI 0)), none, none] [.int (iI z_57)] (rM M1 r_58)
              refine r_istore3 (pc2 := 85) dX4_readPut_84 rfl rfl ?_
              refine r_aload0 (pc2 := 86) dX4_readPut_85 rfl ?_
              refine r_iconst (pc2 := 87) dX4_readPut_86 rfl ?_
              refine r_bipush (pc2 := 89) dX4_readPut_87 rfl (by decide) (by decide) ?_
              refine r_cv2 (pc2 := 92) dX4_readPut_89 rfl vX4_111 (hK_9 hS_M1) (by decide) (c_X4_readNumber (d := d + 1) (M := M1) (r := r_58) (lo := 0) (hi := 12) hS_M1 hT hC_M1 o_r_58 ⟨by omega, by omega⟩ ⟨by omega, by omega⟩) ?_
              rintro _ M9 ⟨z_59, hz_z_59, rfl, h9, hv_z_59⟩
              obtain ⟨z_591, z_592⟩ := hz_z_59
              obtain ⟨r_60, e_r_60⟩ : ∃ x, x = rN T 0 12 r_58 := ⟨_, rfl⟩
              rw [← e_r_60] at h9
              rw [h9]
              have o_r_60 : rOk T r_60 := by rw [e_r_60]; exact o_r_58.N hT
              have i_r_60 := o_r_60.2
              show Go (Ct (d + 3)) _ yX4_readPut cX4_readPut none 0 0 92 [some (.ref 9), some (.int (iI ((gS G : Nat) : Int))), some (.int (iI (kK T r_1.1))), some (.int (iI z_57)), none, none] [.int (iI z_59)] (rM M1 r_60)
              refine r_istore4 (pc2 := 94) dX4_readPut_92 rfl rfl ?_
              refine r_aload0 (pc2 := 95) dX4_readPut_94 rfl ?_
              refine r_iconst (pc2 := 96) dX4_readPut_95 rfl ?_
              refine r_bipush (pc2 := 98) dX4_readPut_96 rfl (by decide) (by decide) ?_
              refine r_cv2 (pc2 := 101) dX4_readPut_98 rfl vX4_111 (hK_9 hS_M1) (by decide) (c_X4_readNumber (d := d + 1) (M := M1) (r := r_60) (lo := 0) (hi := 11) hS_M1 hT hC_M1 o_r_60 ⟨by omega, by omega⟩ ⟨by omega, by omega⟩) ?_
              rintro _ M9 ⟨z_61, hz_z_61, rfl, h9, hv_z_61⟩
              obtain ⟨z_611, z_612⟩ := hz_z_61
              obtain ⟨r_62, e_r_62⟩ : ∃ x, x = rN T 0 11 r_60 := ⟨_, rfl⟩
              rw [← e_r_62] at h9
              rw [h9]
              have o_r_62 : rOk T r_62 := by rw [e_r_62]; exact o_r_60.N hT
              have i_r_62 := o_r_62.2
              show Go (Ct (d + 3)) _ yX4_readPut cX4_readPut none 0 0 101 [some (.ref 9), some (.int (iI ((gS G : Nat) : Int))), some (.int (iI (kK T r_1.1))), some (.int (iI z_57)), some (.int (iI z_59)), none] [.int (iI z_61)] (rM M1 r_62)
              refine r_istore5 (pc2 := 103) dX4_readPut_101 rfl rfl ?_
              refine r_aload0 (pc2 := 104) dX4_readPut_103 rfl ?_
              refine r_bipush (pc2 := 106) dX4_readPut_104 rfl (by decide) (by decide) ?_
              refine r_cv1 (pc2 := 109) dX4_readPut_106 rfl vX4_115 (hK_9 hS_M1) (by decide) (c_X4_readKind (d := d + 1) (M := M1) (r := r_62) (k := 59) hS_M1 hT hC_M1 o_r_62 ⟨by omega, by omega⟩) ?_
              rintro _ M9 ⟨rfl, h9⟩
              obtain ⟨r_63, e_r_63⟩ : ∃ x, x = rK T 59 r_62 := ⟨_, rfl⟩
              rw [← e_r_63] at h9
              rw [h9]
              have o_r_63 : rOk T r_63 := by rw [e_r_63]; exact o_r_62.K hT
              have i_r_63 := o_r_63.2
              show Go (Ct (d + 3)) _ yX4_readPut cX4_readPut none 0 0 109 [some (.ref 9), some (.int (iI ((gS G : Nat) : Int))), some (.int (iI (kK T r_1.1))), some (.int (iI z_57)), some (.int (iI z_59)), some (.int (iI z_61))] [] (rM M1 r_63)
              refine r_aload0 (pc2 := 110) dX4_readPut_109 rfl ?_
              refine r_iload1 (pc2 := 111) dX4_readPut_110 rfl ?_
              refine r_iload2 (pc2 := 112) dX4_readPut_111 rfl ?_
              refine r_iload3 (pc2 := 113) dX4_readPut_112 rfl ?_
              refine r_iload4 (pc2 := 115) dX4_readPut_113 rfl ?_
              refine r_iload5 (pc2 := 117) dX4_readPut_115 rfl ?_
              refine r_cv5 (pc2 := 120) dX4_readPut_117 rfl vX4_118 (hK_9 hS_M1) (by decide) (c_X4_write (d := d + 2) (M := rM M1 r_63) (i := (gS G)) (x := (kK T r_1.1)) (y := z_57) (z := z_59) (w := z_61) hS_M1 (by omega)) ?_
              rintro _ M9 ⟨rfl, h9⟩
              rw [rM_o (by omega), rM_o (by omega), rM_o (by omega), rM_o (by omega)] at h9
              obtain ⟨W64, h_W64⟩ : ∃ x, x = pI (pI (pI (pI M1 12 (gS G) (kK T r_1.1)) 13 (gS G) z_57) 14 (gS G) z_59) 15 (gS G) z_61 := ⟨_, rfl⟩
              rw [← h_W64] at h9
              rw [h9]
              have hS_W64 : sOk W64.1 := by rw [h_W64]; exact hS_M1
              have hC_W64 : cT W64 T := by rw [h_W64]; exact hC_M1
              show Go (Ct (d + 3)) _ yX4_readPut cX4_readPut none 0 0 120 [some (.ref 9), some (.int (iI ((gS G : Nat) : Int))), some (.int (iI (kK T r_1.1))), some (.int (iI z_57)), some (.int (iI z_59)), some (.int (iI z_61))] [] (rM W64 r_63)
              refine r_ret dX4_readPut_120 rfl ?_
              have c_rg : (1 ≤ kK T r_1.1 ∧ kK T r_1.1 ≤ 9) := by omega
              have c_49 : ¬ (kK T r_1.1 = 4 ∨ kK T r_1.1 = 9) := by omega
              have c_6 : ¬ kK T r_1.1 = 6 := by omega
              have c_7 : kK T r_1.1 = 7 := by omega
              have c_m : (kK T r_1.1 = 4 ∨ kK T r_1.1 = 9 ∨ kK T r_1.1 = 6 ∨ kK T r_1.1 = 7) := by omega
              have hl : lPut T r G = (r_63, gLine G 10 (kK T r_1.1) ((kV T r_42.1 : Nat) : Int) ((kV T r_58.1 : Nat) : Int) ((kV T r_60.1 : Nat) : Int)) := by
                unfold lPut
                dsimp only
                rw [← e_r_1, if_pos c_rg, ← e_r_42, if_neg c_49, if_neg c_6, if_pos c_7, ← e_r_58, if_pos c_m, ← e_r_60, ← e_r_62, ← e_r_63]
              rw [hl]
              have hW : W64 = _ := h_W64
              rw [h1] at hW
              refine ⟨rfl, (by rw [hW]; exact ((fr.I (((((((fr.rf.I (by decide)).I (by decide)).I (by decide)).I (by decide)).I (by decide)).I (by decide)).I (by decide)) (by decide)).I (by decide))), rfl, fun q => ⟨rfl, ?_⟩⟩
              have f_r_63 := rK_0 (k := 59) hT o_r_62 (by omega) (by rw [← e_r_63]; exact q)
              have f_r_62 := rN_0 (lo := 0) (hi := 11) hT o_r_60 (by rw [← e_r_62]; exact f_r_63.1)
              have v_z_61 := hv_z_61 (by rw [← e_r_62]; exact f_r_63.1)
              have f_r_60 := rN_0 (lo := 0) (hi := 12) hT o_r_58 (by rw [← e_r_60]; exact f_r_62.1)
              have v_z_59 := hv_z_59 (by rw [← e_r_60]; exact f_r_62.1)
              have f_r_58 := rN_0 (lo := 2) (hi := 9) hT o_r_42 (by rw [← e_r_58]; exact f_r_60.1)
              have v_z_57 := hv_z_57 (by rw [← e_r_58]; exact f_r_60.1)
              have f_r_42 : r_1.2 = 0 := av_0 (by rw [← e_r_42]; exact f_r_58.1)
              have f_r_1 : r.2 = 0 := av_0 (by rw [← e_r_1]; exact f_r_42)
              rw [hW, v_z_57, v_z_59, v_z_61]
              exact (CG.line hG hg).r
          · refine r_aload0 (pc2 := 62) dX4_readPut_61 rfl ?_
            refine r_iconst (pc2 := 63) dX4_readPut_62 rfl ?_
            refine r_iconst (pc2 := 64) dX4_readPut_63 rfl ?_
            refine r_cv2 (pc2 := 67) dX4_readPut_64 rfl vX4_111 (hK_9 hS_M1) (by decide) (c_X4_readNumber (d := d + 1) (M := M1) (r := r_42) (lo := 0) (hi := 3) hS_M1 hT hC_M1 o_r_42 ⟨by omega, by omega⟩ ⟨by omega, by omega⟩) ?_
            rintro _ M9 ⟨z_65, hz_z_65, rfl, h9, hv_z_65⟩
            obtain ⟨z_651, z_652⟩ := hz_z_65
            obtain ⟨r_66, e_r_66⟩ : ∃ x, x = rN T 0 3 r_42 := ⟨_, rfl⟩
            rw [← e_r_66] at h9
            rw [h9]
            have o_r_66 : rOk T r_66 := by rw [e_r_66]; exact o_r_42.N hT
            have i_r_66 := o_r_66.2
            show Go (Ct (d + 3)) _ yX4_readPut cX4_readPut none 0 0 67 [some (.ref 9), some (.int (iI ((gS G : Nat) : Int))), some (.int (iI (kK T r_1.1))), some (.int (iI 0)), none, none] [.int (iI z_65)] (rM M1 r_66)
            refine r_istore3 (pc2 := 68) dX4_readPut_67 rfl rfl ?_
            refine r_goto (tgt := 85) dX4_readPut_68 (by decide) ?_
            refine r_aload0 (pc2 := 86) dX4_readPut_85 rfl ?_
            refine r_iconst (pc2 := 87) dX4_readPut_86 rfl ?_
            refine r_bipush (pc2 := 89) dX4_readPut_87 rfl (by decide) (by decide) ?_
            refine r_cv2 (pc2 := 92) dX4_readPut_89 rfl vX4_111 (hK_9 hS_M1) (by decide) (c_X4_readNumber (d := d + 1) (M := M1) (r := r_66) (lo := 0) (hi := 12) hS_M1 hT hC_M1 o_r_66 ⟨by omega, by omega⟩ ⟨by omega, by omega⟩) ?_
            rintro _ M9 ⟨z_67, hz_z_67, rfl, h9, hv_z_67⟩
            obtain ⟨z_671, z_672⟩ := hz_z_67
            obtain ⟨r_68, e_r_68⟩ : ∃ x, x = rN T 0 12 r_66 := ⟨_, rfl⟩
            rw [← e_r_68] at h9
            rw [h9]
            have o_r_68 : rOk T r_68 := by rw [e_r_68]; exact o_r_66.N hT
            have i_r_68 := o_r_68.2
            show Go (Ct (d + 3)) _ yX4_readPut cX4_readPut none 0 0 92 [some (.ref 9), some (.int (iI ((gS G : Nat) : Int))), some (.int (iI (kK T r_1.1))), some (.int (iI z_65)), none, none] [.int (iI z_67)] (rM M1 r_68)
            refine r_istore4 (pc2 := 94) dX4_readPut_92 rfl rfl ?_
            refine r_aload0 (pc2 := 95) dX4_readPut_94 rfl ?_
            refine r_iconst (pc2 := 96) dX4_readPut_95 rfl ?_
            refine r_bipush (pc2 := 98) dX4_readPut_96 rfl (by decide) (by decide) ?_
            refine r_cv2 (pc2 := 101) dX4_readPut_98 rfl vX4_111 (hK_9 hS_M1) (by decide) (c_X4_readNumber (d := d + 1) (M := M1) (r := r_68) (lo := 0) (hi := 11) hS_M1 hT hC_M1 o_r_68 ⟨by omega, by omega⟩ ⟨by omega, by omega⟩) ?_
            rintro _ M9 ⟨z_69, hz_z_69, rfl, h9, hv_z_69⟩
            obtain ⟨z_691, z_692⟩ := hz_z_69
            obtain ⟨r_70, e_r_70⟩ : ∃ x, x = rN T 0 11 r_68 := ⟨_, rfl⟩
            rw [← e_r_70] at h9
            rw [h9]
            have o_r_70 : rOk T r_70 := by rw [e_r_70]; exact o_r_68.N hT
            have i_r_70 := o_r_70.2
            show Go (Ct (d + 3)) _ yX4_readPut cX4_readPut none 0 0 101 [some (.ref 9), some (.int (iI ((gS G : Nat) : Int))), some (.int (iI (kK T r_1.1))), some (.int (iI z_65)), some (.int (iI z_67)), none] [.int (iI z_69)] (rM M1 r_70)
            refine r_istore5 (pc2 := 103) dX4_readPut_101 rfl rfl ?_
            refine r_aload0 (pc2 := 104) dX4_readPut_103 rfl ?_
            refine r_bipush (pc2 := 106) dX4_readPut_104 rfl (by decide) (by decide) ?_
            refine r_cv1 (pc2 := 109) dX4_readPut_106 rfl vX4_115 (hK_9 hS_M1) (by decide) (c_X4_readKind (d := d + 1) (M := M1) (r := r_70) (k := 59) hS_M1 hT hC_M1 o_r_70 ⟨by omega, by omega⟩) ?_
            rintro _ M9 ⟨rfl, h9⟩
            obtain ⟨r_71, e_r_71⟩ : ∃ x, x = rK T 59 r_70 := ⟨_, rfl⟩
            rw [← e_r_71] at h9
            rw [h9]
            have o_r_71 : rOk T r_71 := by rw [e_r_71]; exact o_r_70.K hT
            have i_r_71 := o_r_71.2
            show Go (Ct (d + 3)) _ yX4_readPut cX4_readPut none 0 0 109 [some (.ref 9), some (.int (iI ((gS G : Nat) : Int))), some (.int (iI (kK T r_1.1))), some (.int (iI z_65)), some (.int (iI z_67)), some (.int (iI z_69))] [] (rM M1 r_71)
            refine r_aload0 (pc2 := 110) dX4_readPut_109 rfl ?_
            refine r_iload1 (pc2 := 111) dX4_readPut_110 rfl ?_
            refine r_iload2 (pc2 := 112) dX4_readPut_111 rfl ?_
            refine r_iload3 (pc2 := 113) dX4_readPut_112 rfl ?_
            refine r_iload4 (pc2 := 115) dX4_readPut_113 rfl ?_
            refine r_iload5 (pc2 := 117) dX4_readPut_115 rfl ?_
            refine r_cv5 (pc2 := 120) dX4_readPut_117 rfl vX4_118 (hK_9 hS_M1) (by decide) (c_X4_write (d := d + 2) (M := rM M1 r_71) (i := (gS G)) (x := (kK T r_1.1)) (y := z_65) (z := z_67) (w := z_69) hS_M1 (by omega)) ?_
            rintro _ M9 ⟨rfl, h9⟩
            rw [rM_o (by omega), rM_o (by omega), rM_o (by omega), rM_o (by omega)] at h9
            obtain ⟨W72, h_W72⟩ : ∃ x, x = pI (pI (pI (pI M1 12 (gS G) (kK T r_1.1)) 13 (gS G) z_65) 14 (gS G) z_67) 15 (gS G) z_69 := ⟨_, rfl⟩
            rw [← h_W72] at h9
            rw [h9]
            have hS_W72 : sOk W72.1 := by rw [h_W72]; exact hS_M1
            have hC_W72 : cT W72 T := by rw [h_W72]; exact hC_M1
            show Go (Ct (d + 3)) _ yX4_readPut cX4_readPut none 0 0 120 [some (.ref 9), some (.int (iI ((gS G : Nat) : Int))), some (.int (iI (kK T r_1.1))), some (.int (iI z_65)), some (.int (iI z_67)), some (.int (iI z_69))] [] (rM W72 r_71)
            refine r_ret dX4_readPut_120 rfl ?_
            have c_rg : (1 ≤ kK T r_1.1 ∧ kK T r_1.1 ≤ 9) := by omega
            have c_49 : ¬ (kK T r_1.1 = 4 ∨ kK T r_1.1 = 9) := by omega
            have c_6 : kK T r_1.1 = 6 := by omega
            have c_m : (kK T r_1.1 = 4 ∨ kK T r_1.1 = 9 ∨ kK T r_1.1 = 6 ∨ kK T r_1.1 = 7) := by omega
            have hl : lPut T r G = (r_71, gLine G 10 (kK T r_1.1) ((kV T r_42.1 : Nat) : Int) ((kV T r_66.1 : Nat) : Int) ((kV T r_68.1 : Nat) : Int)) := by
              unfold lPut
              dsimp only
              rw [← e_r_1, if_pos c_rg, ← e_r_42, if_neg c_49, if_pos c_6, ← e_r_66, if_pos c_m, ← e_r_68, ← e_r_70, ← e_r_71]
            rw [hl]
            have hW : W72 = _ := h_W72
            rw [h1] at hW
            refine ⟨rfl, (by rw [hW]; exact ((fr.I (((((((fr.rf.I (by decide)).I (by decide)).I (by decide)).I (by decide)).I (by decide)).I (by decide)).I (by decide)) (by decide)).I (by decide))), rfl, fun q => ⟨rfl, ?_⟩⟩
            have f_r_71 := rK_0 (k := 59) hT o_r_70 (by omega) (by rw [← e_r_71]; exact q)
            have f_r_70 := rN_0 (lo := 0) (hi := 11) hT o_r_68 (by rw [← e_r_70]; exact f_r_71.1)
            have v_z_69 := hv_z_69 (by rw [← e_r_70]; exact f_r_71.1)
            have f_r_68 := rN_0 (lo := 0) (hi := 12) hT o_r_66 (by rw [← e_r_68]; exact f_r_70.1)
            have v_z_67 := hv_z_67 (by rw [← e_r_68]; exact f_r_70.1)
            have f_r_66 := rN_0 (lo := 0) (hi := 3) hT o_r_42 (by rw [← e_r_66]; exact f_r_68.1)
            have v_z_65 := hv_z_65 (by rw [← e_r_66]; exact f_r_68.1)
            have f_r_42 : r_1.2 = 0 := av_0 (by rw [← e_r_42]; exact f_r_66.1)
            have f_r_1 : r.2 = 0 := av_0 (by rw [← e_r_1]; exact f_r_42)
            rw [hW, v_z_65, v_z_67, v_z_69]
            exact (CG.line hG hg).r
        · refine r_aload0 (pc2 := 46) dX4_readPut_45 rfl ?_
          refine r_iconst (pc2 := 47) dX4_readPut_46 rfl ?_
          refine r_iconst (pc2 := 48) dX4_readPut_47 rfl ?_
          refine r_cv2 (pc2 := 51) dX4_readPut_48 rfl vX4_111 (hK_9 hS_M1) (by decide) (c_X4_readNumber (d := d + 1) (M := M1) (r := r_42) (lo := 0) (hi := 1) hS_M1 hT hC_M1 o_r_42 ⟨by omega, by omega⟩ ⟨by omega, by omega⟩) ?_
          rintro _ M9 ⟨z_73, hz_z_73, rfl, h9, hv_z_73⟩
          obtain ⟨z_731, z_732⟩ := hz_z_73
          obtain ⟨r_74, e_r_74⟩ : ∃ x, x = rN T 0 1 r_42 := ⟨_, rfl⟩
          rw [← e_r_74] at h9
          rw [h9]
          have o_r_74 : rOk T r_74 := by rw [e_r_74]; exact o_r_42.N hT
          have i_r_74 := o_r_74.2
          show Go (Ct (d + 3)) _ yX4_readPut cX4_readPut none 0 0 51 [some (.ref 9), some (.int (iI ((gS G : Nat) : Int))), some (.int (iI (kK T r_1.1))), some (.int (iI 0)), none, none] [.int (iI z_73)] (rM M1 r_74)
          refine r_istore3 (pc2 := 52) dX4_readPut_51 rfl rfl ?_
          refine r_goto (tgt := 85) dX4_readPut_52 (by decide) ?_
          refine r_aload0 (pc2 := 86) dX4_readPut_85 rfl ?_
          refine r_iconst (pc2 := 87) dX4_readPut_86 rfl ?_
          refine r_bipush (pc2 := 89) dX4_readPut_87 rfl (by decide) (by decide) ?_
          refine r_cv2 (pc2 := 92) dX4_readPut_89 rfl vX4_111 (hK_9 hS_M1) (by decide) (c_X4_readNumber (d := d + 1) (M := M1) (r := r_74) (lo := 0) (hi := 12) hS_M1 hT hC_M1 o_r_74 ⟨by omega, by omega⟩ ⟨by omega, by omega⟩) ?_
          rintro _ M9 ⟨z_75, hz_z_75, rfl, h9, hv_z_75⟩
          obtain ⟨z_751, z_752⟩ := hz_z_75
          obtain ⟨r_76, e_r_76⟩ : ∃ x, x = rN T 0 12 r_74 := ⟨_, rfl⟩
          rw [← e_r_76] at h9
          rw [h9]
          have o_r_76 : rOk T r_76 := by rw [e_r_76]; exact o_r_74.N hT
          have i_r_76 := o_r_76.2
          show Go (Ct (d + 3)) _ yX4_readPut cX4_readPut none 0 0 92 [some (.ref 9), some (.int (iI ((gS G : Nat) : Int))), some (.int (iI (kK T r_1.1))), some (.int (iI z_73)), none, none] [.int (iI z_75)] (rM M1 r_76)
          refine r_istore4 (pc2 := 94) dX4_readPut_92 rfl rfl ?_
          refine r_aload0 (pc2 := 95) dX4_readPut_94 rfl ?_
          refine r_iconst (pc2 := 96) dX4_readPut_95 rfl ?_
          refine r_bipush (pc2 := 98) dX4_readPut_96 rfl (by decide) (by decide) ?_
          refine r_cv2 (pc2 := 101) dX4_readPut_98 rfl vX4_111 (hK_9 hS_M1) (by decide) (c_X4_readNumber (d := d + 1) (M := M1) (r := r_76) (lo := 0) (hi := 11) hS_M1 hT hC_M1 o_r_76 ⟨by omega, by omega⟩ ⟨by omega, by omega⟩) ?_
          rintro _ M9 ⟨z_77, hz_z_77, rfl, h9, hv_z_77⟩
          obtain ⟨z_771, z_772⟩ := hz_z_77
          obtain ⟨r_78, e_r_78⟩ : ∃ x, x = rN T 0 11 r_76 := ⟨_, rfl⟩
          rw [← e_r_78] at h9
          rw [h9]
          have o_r_78 : rOk T r_78 := by rw [e_r_78]; exact o_r_76.N hT
          have i_r_78 := o_r_78.2
          show Go (Ct (d + 3)) _ yX4_readPut cX4_readPut none 0 0 101 [some (.ref 9), some (.int (iI ((gS G : Nat) : Int))), some (.int (iI (kK T r_1.1))), some (.int (iI z_73)), some (.int (iI z_75)), none] [.int (iI z_77)] (rM M1 r_78)
          refine r_istore5 (pc2 := 103) dX4_readPut_101 rfl rfl ?_
          refine r_aload0 (pc2 := 104) dX4_readPut_103 rfl ?_
          refine r_bipush (pc2 := 106) dX4_readPut_104 rfl (by decide) (by decide) ?_
          refine r_cv1 (pc2 := 109) dX4_readPut_106 rfl vX4_115 (hK_9 hS_M1) (by decide) (c_X4_readKind (d := d + 1) (M := M1) (r := r_78) (k := 59) hS_M1 hT hC_M1 o_r_78 ⟨by omega, by omega⟩) ?_
          rintro _ M9 ⟨rfl, h9⟩
          obtain ⟨r_79, e_r_79⟩ : ∃ x, x = rK T 59 r_78 := ⟨_, rfl⟩
          rw [← e_r_79] at h9
          rw [h9]
          have o_r_79 : rOk T r_79 := by rw [e_r_79]; exact o_r_78.K hT
          have i_r_79 := o_r_79.2
          show Go (Ct (d + 3)) _ yX4_readPut cX4_readPut none 0 0 109 [some (.ref 9), some (.int (iI ((gS G : Nat) : Int))), some (.int (iI (kK T r_1.1))), some (.int (iI z_73)), some (.int (iI z_75)), some (.int (iI z_77))] [] (rM M1 r_79)
          refine r_aload0 (pc2 := 110) dX4_readPut_109 rfl ?_
          refine r_iload1 (pc2 := 111) dX4_readPut_110 rfl ?_
          refine r_iload2 (pc2 := 112) dX4_readPut_111 rfl ?_
          refine r_iload3 (pc2 := 113) dX4_readPut_112 rfl ?_
          refine r_iload4 (pc2 := 115) dX4_readPut_113 rfl ?_
          refine r_iload5 (pc2 := 117) dX4_readPut_115 rfl ?_
          refine r_cv5 (pc2 := 120) dX4_readPut_117 rfl vX4_118 (hK_9 hS_M1) (by decide) (c_X4_write (d := d + 2) (M := rM M1 r_79) (i := (gS G)) (x := (kK T r_1.1)) (y := z_73) (z := z_75) (w := z_77) hS_M1 (by omega)) ?_
          rintro _ M9 ⟨rfl, h9⟩
          rw [rM_o (by omega), rM_o (by omega), rM_o (by omega), rM_o (by omega)] at h9
          obtain ⟨W80, h_W80⟩ : ∃ x, x = pI (pI (pI (pI M1 12 (gS G) (kK T r_1.1)) 13 (gS G) z_73) 14 (gS G) z_75) 15 (gS G) z_77 := ⟨_, rfl⟩
          rw [← h_W80] at h9
          rw [h9]
          have hS_W80 : sOk W80.1 := by rw [h_W80]; exact hS_M1
          have hC_W80 : cT W80 T := by rw [h_W80]; exact hC_M1
          show Go (Ct (d + 3)) _ yX4_readPut cX4_readPut none 0 0 120 [some (.ref 9), some (.int (iI ((gS G : Nat) : Int))), some (.int (iI (kK T r_1.1))), some (.int (iI z_73)), some (.int (iI z_75)), some (.int (iI z_77))] [] (rM W80 r_79)
          refine r_ret dX4_readPut_120 rfl ?_
          have c_rg : (1 ≤ kK T r_1.1 ∧ kK T r_1.1 ≤ 9) := by omega
          have c_49 : (kK T r_1.1 = 4 ∨ kK T r_1.1 = 9) := by omega
          have c_m : (kK T r_1.1 = 4 ∨ kK T r_1.1 = 9 ∨ kK T r_1.1 = 6 ∨ kK T r_1.1 = 7) := by omega
          have hl : lPut T r G = (r_79, gLine G 10 (kK T r_1.1) ((kV T r_42.1 : Nat) : Int) ((kV T r_74.1 : Nat) : Int) ((kV T r_76.1 : Nat) : Int)) := by
            unfold lPut
            dsimp only
            rw [← e_r_1, if_pos c_rg, ← e_r_42, if_pos c_49, ← e_r_74, if_pos c_m, ← e_r_76, ← e_r_78, ← e_r_79]
          rw [hl]
          have hW : W80 = _ := h_W80
          rw [h1] at hW
          refine ⟨rfl, (by rw [hW]; exact ((fr.I (((((((fr.rf.I (by decide)).I (by decide)).I (by decide)).I (by decide)).I (by decide)).I (by decide)).I (by decide)) (by decide)).I (by decide))), rfl, fun q => ⟨rfl, ?_⟩⟩
          have f_r_79 := rK_0 (k := 59) hT o_r_78 (by omega) (by rw [← e_r_79]; exact q)
          have f_r_78 := rN_0 (lo := 0) (hi := 11) hT o_r_76 (by rw [← e_r_78]; exact f_r_79.1)
          have v_z_77 := hv_z_77 (by rw [← e_r_78]; exact f_r_79.1)
          have f_r_76 := rN_0 (lo := 0) (hi := 12) hT o_r_74 (by rw [← e_r_76]; exact f_r_78.1)
          have v_z_75 := hv_z_75 (by rw [← e_r_76]; exact f_r_78.1)
          have f_r_74 := rN_0 (lo := 0) (hi := 1) hT o_r_42 (by rw [← e_r_74]; exact f_r_76.1)
          have v_z_73 := hv_z_73 (by rw [← e_r_74]; exact f_r_76.1)
          have f_r_42 : r_1.2 = 0 := av_0 (by rw [← e_r_42]; exact f_r_74.1)
          have f_r_1 : r.2 = 0 := av_0 (by rw [← e_r_1]; exact f_r_42)
          rw [hW, v_z_73, v_z_75, v_z_77]
          exact (CG.line hG hg).r
    · refine r_aload0 (pc2 := 24) dX4_readPut_23 rfl ?_
      refine r_iconst (pc2 := 25) dX4_readPut_24 rfl ?_
      refine r_cv1 (pc2 := 28) dX4_readPut_25 rfl vX4_104 (hK_9 hS_M1) (by decide) (c_X4_fail (d := d + 2) (M := M1) (r := r_1) (w := 1) hS_M1 hT hC_M1 o_r_1 (by omega)) ?_
      rintro _ M9 ⟨rfl, h9⟩
      obtain ⟨r_81, e_r_81⟩ : ∃ x, x = fl T 1 r_1 := ⟨_, rfl⟩
      rw [← e_r_81] at h9
      rw [h9]
      have o_r_81 : rOk T r_81 := by rw [e_r_81]; exact o_r_1.f hT (by omega) (by omega)
      have i_r_81 := o_r_81.2
      show Go (Ct (d + 3)) _ yX4_readPut cX4_readPut none 0 0 28 [some (.ref 9), some (.int (iI ((gS G : Nat) : Int))), some (.int (iI (kK T r_1.1))), none, none, none] [] (rM M1 r_81)
      refine r_aload0 (pc2 := 29) dX4_readPut_28 rfl ?_
      refine r_cv0 (pc2 := 32) dX4_readPut_29 rfl vX4_108 (hK_9 hS_M1) (by decide) (c_X4_advance (d := d + 2) (M := M1) (r := r_81) hS_M1 hT hC_M1 o_r_81) ?_
      rintro _ M9 ⟨rfl, h9⟩
      obtain ⟨r_82, e_r_82⟩ : ∃ x, x = av T r_81 := ⟨_, rfl⟩
      rw [← e_r_82] at h9
      rw [h9]
      have o_r_82 : rOk T r_82 := by rw [e_r_82]; exact o_r_81.a
      have i_r_82 := o_r_82.2
      show Go (Ct (d + 3)) _ yX4_readPut cX4_readPut none 0 0 32 [some (.ref 9), some (.int (iI ((gS G : Nat) : Int))), some (.int (iI (kK T r_1.1))), none, none, none] [] (rM M1 r_82)
      refine r_iconst (pc2 := 33) dX4_readPut_32 rfl ?_
      refine r_istore3 (pc2 := 34) dX4_readPut_33 rfl rfl ?_
      refine r_iload2 (pc2 := 35) dX4_readPut_34 rfl ?_
      refine r_iconst (pc2 := 36) dX4_readPut_35 rfl ?_
      refine r_iceq (tgt := 45) (pc2 := 39) dX4_readPut_36 rfl (by decide) ⟨by omega, by omega⟩ ⟨by omega, by omega⟩ (fun b_36 => ?_) (fun b_36 => ?_)
      · refine r_aload0 (pc2 := 46) dX4_readPut_45 rfl ?_
        refine r_iconst (pc2 := 47) dX4_readPut_46 rfl ?_
        refine r_iconst (pc2 := 48) dX4_readPut_47 rfl ?_
        refine r_cv2 (pc2 := 51) dX4_readPut_48 rfl vX4_111 (hK_9 hS_M1) (by decide) (c_X4_readNumber (d := d + 1) (M := M1) (r := r_82) (lo := 0) (hi := 1) hS_M1 hT hC_M1 o_r_82 ⟨by omega, by omega⟩ ⟨by omega, by omega⟩) ?_
        rintro _ M9 ⟨z_83, hz_z_83, rfl, h9, hv_z_83⟩
        obtain ⟨z_831, z_832⟩ := hz_z_83
        obtain ⟨r_84, e_r_84⟩ : ∃ x, x = rN T 0 1 r_82 := ⟨_, rfl⟩
        rw [← e_r_84] at h9
        rw [h9]
        have o_r_84 : rOk T r_84 := by rw [e_r_84]; exact o_r_82.N hT
        have i_r_84 := o_r_84.2
        show Go (Ct (d + 3)) _ yX4_readPut cX4_readPut none 0 0 51 [some (.ref 9), some (.int (iI ((gS G : Nat) : Int))), some (.int (iI (kK T r_1.1))), some (.int (iI 0)), none, none] [.int (iI z_83)] (rM M1 r_84)
        refine r_istore3 (pc2 := 52) dX4_readPut_51 rfl rfl ?_
        refine r_goto (tgt := 85) dX4_readPut_52 (by decide) ?_
        refine r_aload0 (pc2 := 86) dX4_readPut_85 rfl ?_
        refine r_iconst (pc2 := 87) dX4_readPut_86 rfl ?_
        refine r_bipush (pc2 := 89) dX4_readPut_87 rfl (by decide) (by decide) ?_
        refine r_cv2 (pc2 := 92) dX4_readPut_89 rfl vX4_111 (hK_9 hS_M1) (by decide) (c_X4_readNumber (d := d + 1) (M := M1) (r := r_84) (lo := 0) (hi := 12) hS_M1 hT hC_M1 o_r_84 ⟨by omega, by omega⟩ ⟨by omega, by omega⟩) ?_
        rintro _ M9 ⟨z_85, hz_z_85, rfl, h9, hv_z_85⟩
        obtain ⟨z_851, z_852⟩ := hz_z_85
        obtain ⟨r_86, e_r_86⟩ : ∃ x, x = rN T 0 12 r_84 := ⟨_, rfl⟩
        rw [← e_r_86] at h9
        rw [h9]
        have o_r_86 : rOk T r_86 := by rw [e_r_86]; exact o_r_84.N hT
        have i_r_86 := o_r_86.2
        show Go (Ct (d + 3)) _ yX4_readPut cX4_readPut none 0 0 92 [some (.ref 9), some (.int (iI ((gS G : Nat) : Int))), some (.int (iI (kK T r_1.1))), some (.int (iI z_83)), none, none] [.int (iI z_85)] (rM M1 r_86)
        refine r_istore4 (pc2 := 94) dX4_readPut_92 rfl rfl ?_
        refine r_aload0 (pc2 := 95) dX4_readPut_94 rfl ?_
        refine r_iconst (pc2 := 96) dX4_readPut_95 rfl ?_
        refine r_bipush (pc2 := 98) dX4_readPut_96 rfl (by decide) (by decide) ?_
        refine r_cv2 (pc2 := 101) dX4_readPut_98 rfl vX4_111 (hK_9 hS_M1) (by decide) (c_X4_readNumber (d := d + 1) (M := M1) (r := r_86) (lo := 0) (hi := 11) hS_M1 hT hC_M1 o_r_86 ⟨by omega, by omega⟩ ⟨by omega, by omega⟩) ?_
        rintro _ M9 ⟨z_87, hz_z_87, rfl, h9, hv_z_87⟩
        obtain ⟨z_871, z_872⟩ := hz_z_87
        obtain ⟨r_88, e_r_88⟩ : ∃ x, x = rN T 0 11 r_86 := ⟨_, rfl⟩
        rw [← e_r_88] at h9
        rw [h9]
        have o_r_88 : rOk T r_88 := by rw [e_r_88]; exact o_r_86.N hT
        have i_r_88 := o_r_88.2
        show Go (Ct (d + 3)) _ yX4_readPut cX4_readPut none 0 0 101 [some (.ref 9), some (.int (iI ((gS G : Nat) : Int))), some (.int (iI (kK T r_1.1))), some (.int (iI z_83)), some (.int (iI z_85)), none] [.int (iI z_87)] (rM M1 r_88)
        refine r_istore5 (pc2 := 103) dX4_readPut_101 rfl rfl ?_
        refine r_aload0 (pc2 := 104) dX4_readPut_103 rfl ?_
        refine r_bipush (pc2 := 106) dX4_readPut_104 rfl (by decide) (by decide) ?_
        refine r_cv1 (pc2 := 109) dX4_readPut_106 rfl vX4_115 (hK_9 hS_M1) (by decide) (c_X4_readKind (d := d + 1) (M := M1) (r := r_88) (k := 59) hS_M1 hT hC_M1 o_r_88 ⟨by omega, by omega⟩) ?_
        rintro _ M9 ⟨rfl, h9⟩
        obtain ⟨r_89, e_r_89⟩ : ∃ x, x = rK T 59 r_88 := ⟨_, rfl⟩
        rw [← e_r_89] at h9
        rw [h9]
        have o_r_89 : rOk T r_89 := by rw [e_r_89]; exact o_r_88.K hT
        have i_r_89 := o_r_89.2
        show Go (Ct (d + 3)) _ yX4_readPut cX4_readPut none 0 0 109 [some (.ref 9), some (.int (iI ((gS G : Nat) : Int))), some (.int (iI (kK T r_1.1))), some (.int (iI z_83)), some (.int (iI z_85)), some (.int (iI z_87))] [] (rM M1 r_89)
        refine r_aload0 (pc2 := 110) dX4_readPut_109 rfl ?_
        refine r_iload1 (pc2 := 111) dX4_readPut_110 rfl ?_
        refine r_iload2 (pc2 := 112) dX4_readPut_111 rfl ?_
        refine r_iload3 (pc2 := 113) dX4_readPut_112 rfl ?_
        refine r_iload4 (pc2 := 115) dX4_readPut_113 rfl ?_
        refine r_iload5 (pc2 := 117) dX4_readPut_115 rfl ?_
        refine r_cv5 (pc2 := 120) dX4_readPut_117 rfl vX4_118 (hK_9 hS_M1) (by decide) (c_X4_write (d := d + 2) (M := rM M1 r_89) (i := (gS G)) (x := (kK T r_1.1)) (y := z_83) (z := z_85) (w := z_87) hS_M1 (by omega)) ?_
        rintro _ M9 ⟨rfl, h9⟩
        rw [rM_o (by omega), rM_o (by omega), rM_o (by omega), rM_o (by omega)] at h9
        obtain ⟨W90, h_W90⟩ : ∃ x, x = pI (pI (pI (pI M1 12 (gS G) (kK T r_1.1)) 13 (gS G) z_83) 14 (gS G) z_85) 15 (gS G) z_87 := ⟨_, rfl⟩
        rw [← h_W90] at h9
        rw [h9]
        have hS_W90 : sOk W90.1 := by rw [h_W90]; exact hS_M1
        have hC_W90 : cT W90 T := by rw [h_W90]; exact hC_M1
        show Go (Ct (d + 3)) _ yX4_readPut cX4_readPut none 0 0 120 [some (.ref 9), some (.int (iI ((gS G : Nat) : Int))), some (.int (iI (kK T r_1.1))), some (.int (iI z_83)), some (.int (iI z_85)), some (.int (iI z_87))] [] (rM W90 r_89)
        refine r_ret dX4_readPut_120 rfl ?_
        have c_rg : ¬ (1 ≤ kK T r_1.1 ∧ kK T r_1.1 ≤ 9) := by omega
        have c_49 : (kK T r_1.1 = 4 ∨ kK T r_1.1 = 9) := by omega
        have c_m : (kK T r_1.1 = 4 ∨ kK T r_1.1 = 9 ∨ kK T r_1.1 = 6 ∨ kK T r_1.1 = 7) := by omega
        have hl : lPut T r G = (r_89, gLine G 10 (kK T r_1.1) ((kV T r_82.1 : Nat) : Int) ((kV T r_84.1 : Nat) : Int) ((kV T r_86.1 : Nat) : Int)) := by
          unfold lPut
          dsimp only
          rw [← e_r_1, if_neg c_rg, ← e_r_81, ← e_r_82, if_pos c_49, ← e_r_84, if_pos c_m, ← e_r_86, ← e_r_88, ← e_r_89]
        rw [hl]
        have hW : W90 = _ := h_W90
        rw [h1] at hW
        refine ⟨rfl, (by rw [hW]; exact ((fr.I (((((((fr.rf.I (by decide)).I (by decide)).I (by decide)).I (by decide)).I (by decide)).I (by decide)).I (by decide)) (by decide)).I (by decide))), rfl, fun q => ⟨rfl, ?_⟩⟩
        have f_r_89 := rK_0 (k := 59) hT o_r_88 (by omega) (by rw [← e_r_89]; exact q)
        have f_r_88 := rN_0 (lo := 0) (hi := 11) hT o_r_86 (by rw [← e_r_88]; exact f_r_89.1)
        have v_z_87 := hv_z_87 (by rw [← e_r_88]; exact f_r_89.1)
        have f_r_86 := rN_0 (lo := 0) (hi := 12) hT o_r_84 (by rw [← e_r_86]; exact f_r_88.1)
        have v_z_85 := hv_z_85 (by rw [← e_r_86]; exact f_r_88.1)
        have f_r_84 := rN_0 (lo := 0) (hi := 1) hT o_r_82 (by rw [← e_r_84]; exact f_r_86.1)
        have v_z_83 := hv_z_83 (by rw [← e_r_84]; exact f_r_86.1)
        have f_r_82 : r_81.2 = 0 := av_0 (by rw [← e_r_82]; exact f_r_84.1)
        exact absurd (show (fl T 1 r_1).2 = 0 from by rw [← e_r_81]; exact f_r_82) (fl_f (by omega) i_r_1.1)
      · refine r_iload2 (pc2 := 40) dX4_readPut_39 rfl ?_
        refine r_bipush (pc2 := 42) dX4_readPut_40 rfl (by decide) (by decide) ?_
        refine r_icne (tgt := 55) (pc2 := 45) dX4_readPut_42 rfl (by decide) ⟨by omega, by omega⟩ ⟨by omega, by omega⟩ (fun b_42 => ?_) (fun b_42 => ?_)
        · refine r_iload2 (pc2 := 56) dX4_readPut_55 rfl ?_
          refine r_bipush (pc2 := 58) dX4_readPut_56 rfl (by decide) (by decide) ?_
          refine r_icne (tgt := 71) (pc2 := 61) dX4_readPut_58 rfl (by decide) ⟨by omega, by omega⟩ ⟨by omega, by omega⟩ (fun b_58 => ?_) (fun b_58 => ?_)
          · refine r_iload2 (pc2 := 72) dX4_readPut_71 rfl ?_
            refine r_bipush (pc2 := 74) dX4_readPut_72 rfl (by decide) (by decide) ?_
            refine r_icne (tgt := 85) (pc2 := 77) dX4_readPut_74 rfl (by decide) ⟨by omega, by omega⟩ ⟨by omega, by omega⟩ (fun b_74 => ?_) (fun b_74 => ?_)
            · refine r_aload0 (pc2 := 86) dX4_readPut_85 rfl ?_
              refine r_iconst (pc2 := 87) dX4_readPut_86 rfl ?_
              refine r_bipush (pc2 := 89) dX4_readPut_87 rfl (by decide) (by decide) ?_
              refine r_cv2 (pc2 := 92) dX4_readPut_89 rfl vX4_111 (hK_9 hS_M1) (by decide) (c_X4_readNumber (d := d + 1) (M := M1) (r := r_82) (lo := 0) (hi := 12) hS_M1 hT hC_M1 o_r_82 ⟨by omega, by omega⟩ ⟨by omega, by omega⟩) ?_
              rintro _ M9 ⟨z_91, hz_z_91, rfl, h9, hv_z_91⟩
              obtain ⟨z_911, z_912⟩ := hz_z_91
              obtain ⟨r_92, e_r_92⟩ : ∃ x, x = rN T 0 12 r_82 := ⟨_, rfl⟩
              rw [← e_r_92] at h9
              rw [h9]
              have o_r_92 : rOk T r_92 := by rw [e_r_92]; exact o_r_82.N hT
              have i_r_92 := o_r_92.2
              show Go (Ct (d + 3)) _ yX4_readPut cX4_readPut none 0 0 92 [some (.ref 9), some (.int (iI ((gS G : Nat) : Int))), some (.int (iI (kK T r_1.1))), some (.int (iI 0)), none, none] [.int (iI z_91)] (rM M1 r_92)
              refine r_istore4 (pc2 := 94) dX4_readPut_92 rfl rfl ?_
              refine r_aload0 (pc2 := 95) dX4_readPut_94 rfl ?_
              refine r_iconst (pc2 := 96) dX4_readPut_95 rfl ?_
              refine r_bipush (pc2 := 98) dX4_readPut_96 rfl (by decide) (by decide) ?_
              refine r_cv2 (pc2 := 101) dX4_readPut_98 rfl vX4_111 (hK_9 hS_M1) (by decide) (c_X4_readNumber (d := d + 1) (M := M1) (r := r_92) (lo := 0) (hi := 11) hS_M1 hT hC_M1 o_r_92 ⟨by omega, by omega⟩ ⟨by omega, by omega⟩) ?_
              rintro _ M9 ⟨z_93, hz_z_93, rfl, h9, hv_z_93⟩
              obtain ⟨z_931, z_932⟩ := hz_z_93
              obtain ⟨r_94, e_r_94⟩ : ∃ x, x = rN T 0 11 r_92 := ⟨_, rfl⟩
              rw [← e_r_94] at h9
              rw [h9]
              have o_r_94 : rOk T r_94 := by rw [e_r_94]; exact o_r_92.N hT
              have i_r_94 := o_r_94.2
              show Go (Ct (d + 3)) _ yX4_readPut cX4_readPut none 0 0 101 [some (.ref 9), some (.int (iI ((gS G : Nat) : Int))), some (.int (iI (kK T r_1.1))), some (.int (iI 0)), some (.int (iI z_91)), none] [.int (iI z_93)] (rM M1 r_94)
              refine r_istore5 (pc2 := 103) dX4_readPut_101 rfl rfl ?_
              refine r_aload0 (pc2 := 104) dX4_readPut_103 rfl ?_
              refine r_bipush (pc2 := 106) dX4_readPut_104 rfl (by decide) (by decide) ?_
              refine r_cv1 (pc2 := 109) dX4_readPut_106 rfl vX4_115 (hK_9 hS_M1) (by decide) (c_X4_readKind (d := d + 1) (M := M1) (r := r_94) (k := 59) hS_M1 hT hC_M1 o_r_94 ⟨by omega, by omega⟩) ?_
              rintro _ M9 ⟨rfl, h9⟩
              obtain ⟨r_95, e_r_95⟩ : ∃ x, x = rK T 59 r_94 := ⟨_, rfl⟩
              rw [← e_r_95] at h9
              rw [h9]
              have o_r_95 : rOk T r_95 := by rw [e_r_95]; exact o_r_94.K hT
              have i_r_95 := o_r_95.2
              show Go (Ct (d + 3)) _ yX4_readPut cX4_readPut none 0 0 109 [some (.ref 9), some (.int (iI ((gS G : Nat) : Int))), some (.int (iI (kK T r_1.1))), some (.int (iI 0)), some (.int (iI z_91)), some (.int (iI z_93))] [] (rM M1 r_95)
              refine r_aload0 (pc2 := 110) dX4_readPut_109 rfl ?_
              refine r_iload1 (pc2 := 111) dX4_readPut_110 rfl ?_
              refine r_iload2 (pc2 := 112) dX4_readPut_111 rfl ?_
              refine r_iload3 (pc2 := 113) dX4_readPut_112 rfl ?_
              refine r_iload4 (pc2 := 115) dX4_readPut_113 rfl ?_
              refine r_iload5 (pc2 := 117) dX4_readPut_115 rfl ?_
              refine r_cv5 (pc2 := 120) dX4_readPut_117 rfl vX4_118 (hK_9 hS_M1) (by decide) (c_X4_write (d := d + 2) (M := rM M1 r_95) (i := (gS G)) (x := (kK T r_1.1)) (y := 0) (z := z_91) (w := z_93) hS_M1 (by omega)) ?_
              rintro _ M9 ⟨rfl, h9⟩
              rw [rM_o (by omega), rM_o (by omega), rM_o (by omega), rM_o (by omega)] at h9
              obtain ⟨W96, h_W96⟩ : ∃ x, x = pI (pI (pI (pI M1 12 (gS G) (kK T r_1.1)) 13 (gS G) 0) 14 (gS G) z_91) 15 (gS G) z_93 := ⟨_, rfl⟩
              rw [← h_W96] at h9
              rw [h9]
              have hS_W96 : sOk W96.1 := by rw [h_W96]; exact hS_M1
              have hC_W96 : cT W96 T := by rw [h_W96]; exact hC_M1
              show Go (Ct (d + 3)) _ yX4_readPut cX4_readPut none 0 0 120 [some (.ref 9), some (.int (iI ((gS G : Nat) : Int))), some (.int (iI (kK T r_1.1))), some (.int (iI 0)), some (.int (iI z_91)), some (.int (iI z_93))] [] (rM W96 r_95)
              refine r_ret dX4_readPut_120 rfl ?_
              have c_rg : ¬ (1 ≤ kK T r_1.1 ∧ kK T r_1.1 ≤ 9) := by omega
              have c_49 : ¬ (kK T r_1.1 = 4 ∨ kK T r_1.1 = 9) := by omega
              have c_6 : ¬ kK T r_1.1 = 6 := by omega
              have c_7 : ¬ kK T r_1.1 = 7 := by omega
              have c_m : ¬ (kK T r_1.1 = 4 ∨ kK T r_1.1 = 9 ∨ kK T r_1.1 = 6 ∨ kK T r_1.1 = 7) := by omega
              have hl : lPut T r G = (r_95, gLine G 10 (kK T r_1.1) 0 ((kV T r_82.1 : Nat) : Int) ((kV T r_92.1 : Nat) : Int)) := by
                unfold lPut
                dsimp only
                rw [← e_r_1, if_neg c_rg, ← e_r_81, ← e_r_82, if_neg c_49, if_neg c_6, if_neg c_7, if_neg c_m, ← e_r_92, ← e_r_94, ← e_r_95]
              rw [hl]
              have hW : W96 = _ := h_W96
              rw [h1] at hW
              refine ⟨rfl, (by rw [hW]; exact ((fr.I (((((((fr.rf.I (by decide)).I (by decide)).I (by decide)).I (by decide)).I (by decide)).I (by decide)).I (by decide)) (by decide)).I (by decide))), rfl, fun q => ⟨rfl, ?_⟩⟩
              have f_r_95 := rK_0 (k := 59) hT o_r_94 (by omega) (by rw [← e_r_95]; exact q)
              have f_r_94 := rN_0 (lo := 0) (hi := 11) hT o_r_92 (by rw [← e_r_94]; exact f_r_95.1)
              have v_z_93 := hv_z_93 (by rw [← e_r_94]; exact f_r_95.1)
              have f_r_92 := rN_0 (lo := 0) (hi := 12) hT o_r_82 (by rw [← e_r_92]; exact f_r_94.1)
              have v_z_91 := hv_z_91 (by rw [← e_r_92]; exact f_r_94.1)
              have f_r_82 : r_81.2 = 0 := av_0 (by rw [← e_r_82]; exact f_r_92.1)
              exact absurd (show (fl T 1 r_1).2 = 0 from by rw [← e_r_81]; exact f_r_82) (fl_f (by omega) i_r_1.1)
            · refine r_aload0 (pc2 := 78) dX4_readPut_77 rfl ?_
              refine r_iconst (pc2 := 79) dX4_readPut_78 rfl ?_
              refine r_bipush (pc2 := 81) dX4_readPut_79 rfl (by decide) (by decide) ?_
              refine r_cv2 (pc2 := 84) dX4_readPut_81 rfl vX4_111 (hK_9 hS_M1) (by decide) (c_X4_readNumber (d := d + 1) (M := M1) (r := r_82) (lo := 2) (hi := 9) hS_M1 hT hC_M1 o_r_82 ⟨by omega, by omega⟩ ⟨by omega, by omega⟩) ?_
              rintro _ M9 ⟨z_97, hz_z_97, rfl, h9, hv_z_97⟩
              obtain ⟨z_971, z_972⟩ := hz_z_97
              obtain ⟨r_98, e_r_98⟩ : ∃ x, x = rN T 2 9 r_82 := ⟨_, rfl⟩
              rw [← e_r_98] at h9
              rw [h9]
              have o_r_98 : rOk T r_98 := by rw [e_r_98]; exact o_r_82.N hT
              have i_r_98 := o_r_98.2
              show Go (Ct (d + 3)) _ yX4_readPut cX4_readPut none 0 0 84 [some (.ref 9), some (.int (iI ((gS G : Nat) : Int))), some (.int (iI (kK T r_1.1))), some (.int (iI 0)), none, none] [.int (iI z_97)] (rM M1 r_98)
              refine r_istore3 (pc2 := 85) dX4_readPut_84 rfl rfl ?_
              refine r_aload0 (pc2 := 86) dX4_readPut_85 rfl ?_
              refine r_iconst (pc2 := 87) dX4_readPut_86 rfl ?_
              refine r_bipush (pc2 := 89) dX4_readPut_87 rfl (by decide) (by decide) ?_
              refine r_cv2 (pc2 := 92) dX4_readPut_89 rfl vX4_111 (hK_9 hS_M1) (by decide) (c_X4_readNumber (d := d + 1) (M := M1) (r := r_98) (lo := 0) (hi := 12) hS_M1 hT hC_M1 o_r_98 ⟨by omega, by omega⟩ ⟨by omega, by omega⟩) ?_
              rintro _ M9 ⟨z_99, hz_z_99, rfl, h9, hv_z_99⟩
              obtain ⟨z_991, z_992⟩ := hz_z_99
              obtain ⟨r_100, e_r_100⟩ : ∃ x, x = rN T 0 12 r_98 := ⟨_, rfl⟩
              rw [← e_r_100] at h9
              rw [h9]
              have o_r_100 : rOk T r_100 := by rw [e_r_100]; exact o_r_98.N hT
              have i_r_100 := o_r_100.2
              show Go (Ct (d + 3)) _ yX4_readPut cX4_readPut none 0 0 92 [some (.ref 9), some (.int (iI ((gS G : Nat) : Int))), some (.int (iI (kK T r_1.1))), some (.int (iI z_97)), none, none] [.int (iI z_99)] (rM M1 r_100)
              refine r_istore4 (pc2 := 94) dX4_readPut_92 rfl rfl ?_
              refine r_aload0 (pc2 := 95) dX4_readPut_94 rfl ?_
              refine r_iconst (pc2 := 96) dX4_readPut_95 rfl ?_
              refine r_bipush (pc2 := 98) dX4_readPut_96 rfl (by decide) (by decide) ?_
              refine r_cv2 (pc2 := 101) dX4_readPut_98 rfl vX4_111 (hK_9 hS_M1) (by decide) (c_X4_readNumber (d := d + 1) (M := M1) (r := r_100) (lo := 0) (hi := 11) hS_M1 hT hC_M1 o_r_100 ⟨by omega, by omega⟩ ⟨by omega, by omega⟩) ?_
              rintro _ M9 ⟨z_101, hz_z_101, rfl, h9, hv_z_101⟩
              obtain ⟨z_1011, z_1012⟩ := hz_z_101
              obtain ⟨r_102, e_r_102⟩ : ∃ x, x = rN T 0 11 r_100 := ⟨_, rfl⟩
              rw [← e_r_102] at h9
              rw [h9]
              have o_r_102 : rOk T r_102 := by rw [e_r_102]; exact o_r_100.N hT
              have i_r_102 := o_r_102.2
              show Go (Ct (d + 3)) _ yX4_readPut cX4_readPut none 0 0 101 [some (.ref 9), some (.int (iI ((gS G : Nat) : Int))), some (.int (iI (kK T r_1.1))), some (.int (iI z_97)), some (.int (iI z_99)), none] [.int (iI z_101)] (rM M1 r_102)
              refine r_istore5 (pc2 := 103) dX4_readPut_101 rfl rfl ?_
              refine r_aload0 (pc2 := 104) dX4_readPut_103 rfl ?_
              refine r_bipush (pc2 := 106) dX4_readPut_104 rfl (by decide) (by decide) ?_
              refine r_cv1 (pc2 := 109) dX4_readPut_106 rfl vX4_115 (hK_9 hS_M1) (by decide) (c_X4_readKind (d := d + 1) (M := M1) (r := r_102) (k := 59) hS_M1 hT hC_M1 o_r_102 ⟨by omega, by omega⟩) ?_
              rintro _ M9 ⟨rfl, h9⟩
              obtain ⟨r_103, e_r_103⟩ : ∃ x, x = rK T 59 r_102 := ⟨_, rfl⟩
              rw [← e_r_103] at h9
              rw [h9]
              have o_r_103 : rOk T r_103 := by rw [e_r_103]; exact o_r_102.K hT
              have i_r_103 := o_r_103.2
              show Go (Ct (d + 3)) _ yX4_readPut cX4_readPut none 0 0 109 [some (.ref 9), some (.int (iI ((gS G : Nat) : Int))), some (.int (iI (kK T r_1.1))), some (.int (iI z_97)), some (.int (iI z_99)), some (.int (iI z_101))] [] (rM M1 r_103)
              refine r_aload0 (pc2 := 110) dX4_readPut_109 rfl ?_
              refine r_iload1 (pc2 := 111) dX4_readPut_110 rfl ?_
              refine r_iload2 (pc2 := 112) dX4_readPut_111 rfl ?_
              refine r_iload3 (pc2 := 113) dX4_readPut_112 rfl ?_
              refine r_iload4 (pc2 := 115) dX4_readPut_113 rfl ?_
              refine r_iload5 (pc2 := 117) dX4_readPut_115 rfl ?_
              refine r_cv5 (pc2 := 120) dX4_readPut_117 rfl vX4_118 (hK_9 hS_M1) (by decide) (c_X4_write (d := d + 2) (M := rM M1 r_103) (i := (gS G)) (x := (kK T r_1.1)) (y := z_97) (z := z_99) (w := z_101) hS_M1 (by omega)) ?_
              rintro _ M9 ⟨rfl, h9⟩
              rw [rM_o (by omega), rM_o (by omega), rM_o (by omega), rM_o (by omega)] at h9
              obtain ⟨W104, h_W104⟩ : ∃ x, x = pI (pI (pI (pI M1 12 (gS G) (kK T r_1.1)) 13 (gS G) z_97) 14 (gS G) z_99) 15 (gS G) z_101 := ⟨_, rfl⟩
              rw [← h_W104] at h9
              rw [h9]
              have hS_W104 : sOk W104.1 := by rw [h_W104]; exact hS_M1
              have hC_W104 : cT W104 T := by rw [h_W104]; exact hC_M1
              show Go (Ct (d + 3)) _ yX4_readPut cX4_readPut none 0 0 120 [some (.ref 9), some (.int (iI ((gS G : Nat) : Int))), some (.int (iI (kK T r_1.1))), some (.int (iI z_97)), some (.int (iI z_99)), some (.int (iI z_101))] [] (rM W104 r_103)
              refine r_ret dX4_readPut_120 rfl ?_
              have c_rg : ¬ (1 ≤ kK T r_1.1 ∧ kK T r_1.1 ≤ 9) := by omega
              have c_49 : ¬ (kK T r_1.1 = 4 ∨ kK T r_1.1 = 9) := by omega
              have c_6 : ¬ kK T r_1.1 = 6 := by omega
              have c_7 : kK T r_1.1 = 7 := by omega
              have c_m : (kK T r_1.1 = 4 ∨ kK T r_1.1 = 9 ∨ kK T r_1.1 = 6 ∨ kK T r_1.1 = 7) := by omega
              have hl : lPut T r G = (r_103, gLine G 10 (kK T r_1.1) ((kV T r_82.1 : Nat) : Int) ((kV T r_98.1 : Nat) : Int) ((kV T r_100.1 : Nat) : Int)) := by
                unfold lPut
                dsimp only
                rw [← e_r_1, if_neg c_rg, ← e_r_81, ← e_r_82, if_neg c_49, if_neg c_6, if_pos c_7, ← e_r_98, if_pos c_m, ← e_r_100, ← e_r_102, ← e_r_103]
              rw [hl]
              have hW : W104 = _ := h_W104
              rw [h1] at hW
              refine ⟨rfl, (by rw [hW]; exact ((fr.I (((((((fr.rf.I (by decide)).I (by decide)).I (by decide)).I (by decide)).I (by decide)).I (by decide)).I (by decide)) (by decide)).I (by decide))), rfl, fun q => ⟨rfl, ?_⟩⟩
              have f_r_103 := rK_0 (k := 59) hT o_r_102 (by omega) (by rw [← e_r_103]; exact q)
              have f_r_102 := rN_0 (lo := 0) (hi := 11) hT o_r_100 (by rw [← e_r_102]; exact f_r_103.1)
              have v_z_101 := hv_z_101 (by rw [← e_r_102]; exact f_r_103.1)
              have f_r_100 := rN_0 (lo := 0) (hi := 12) hT o_r_98 (by rw [← e_r_100]; exact f_r_102.1)
              have v_z_99 := hv_z_99 (by rw [← e_r_100]; exact f_r_102.1)
              have f_r_98 := rN_0 (lo := 2) (hi := 9) hT o_r_82 (by rw [← e_r_98]; exact f_r_100.1)
              have v_z_97 := hv_z_97 (by rw [← e_r_98]; exact f_r_100.1)
              have f_r_82 : r_81.2 = 0 := av_0 (by rw [← e_r_82]; exact f_r_98.1)
              exact absurd (show (fl T 1 r_1).2 = 0 from by rw [← e_r_81]; exact f_r_82) (fl_f (by omega) i_r_1.1)
          · refine r_aload0 (pc2 := 62) dX4_readPut_61 rfl ?_
            refine r_iconst (pc2 := 63) dX4_readPut_62 rfl ?_
            refine r_iconst (pc2 := 64) dX4_readPut_63 rfl ?_
            refine r_cv2 (pc2 := 67) dX4_readPut_64 rfl vX4_111 (hK_9 hS_M1) (by decide) (c_X4_readNumber (d := d + 1) (M := M1) (r := r_82) (lo := 0) (hi := 3) hS_M1 hT hC_M1 o_r_82 ⟨by omega, by omega⟩ ⟨by omega, by omega⟩) ?_
            rintro _ M9 ⟨z_105, hz_z_105, rfl, h9, hv_z_105⟩
            obtain ⟨z_1051, z_1052⟩ := hz_z_105
            obtain ⟨r_106, e_r_106⟩ : ∃ x, x = rN T 0 3 r_82 := ⟨_, rfl⟩
            rw [← e_r_106] at h9
            rw [h9]
            have o_r_106 : rOk T r_106 := by rw [e_r_106]; exact o_r_82.N hT
            have i_r_106 := o_r_106.2
            show Go (Ct (d + 3)) _ yX4_readPut cX4_readPut none 0 0 67 [some (.ref 9), some (.int (iI ((gS G : Nat) : Int))), some (.int (iI (kK T r_1.1))), some (.int (iI 0)), none, none] [.int (iI z_105)] (rM M1 r_106)
            refine r_istore3 (pc2 := 68) dX4_readPut_67 rfl rfl ?_
            refine r_goto (tgt := 85) dX4_readPut_68 (by decide) ?_
            refine r_aload0 (pc2 := 86) dX4_readPut_85 rfl ?_
            refine r_iconst (pc2 := 87) dX4_readPut_86 rfl ?_
            refine r_bipush (pc2 := 89) dX4_readPut_87 rfl (by decide) (by decide) ?_
            refine r_cv2 (pc2 := 92) dX4_readPut_89 rfl vX4_111 (hK_9 hS_M1) (by decide) (c_X4_readNumber (d := d + 1) (M := M1) (r := r_106) (lo := 0) (hi := 12) hS_M1 hT hC_M1 o_r_106 ⟨by omega, by omega⟩ ⟨by omega, by omega⟩) ?_
            rintro _ M9 ⟨z_107, hz_z_107, rfl, h9, hv_z_107⟩
            obtain ⟨z_1071, z_1072⟩ := hz_z_107
            obtain ⟨r_108, e_r_108⟩ : ∃ x, x = rN T 0 12 r_106 := ⟨_, rfl⟩
            rw [← e_r_108] at h9
            rw [h9]
            have o_r_108 : rOk T r_108 := by rw [e_r_108]; exact o_r_106.N hT
            have i_r_108 := o_r_108.2
            show Go (Ct (d + 3)) _ yX4_readPut cX4_readPut none 0 0 92 [some (.ref 9), some (.int (iI ((gS G : Nat) : Int))), some (.int (iI (kK T r_1.1))), some (.int (iI z_105)), none, none] [.int (iI z_107)] (rM M1 r_108)
            refine r_istore4 (pc2 := 94) dX4_readPut_92 rfl rfl ?_
            refine r_aload0 (pc2 := 95) dX4_readPut_94 rfl ?_
            refine r_iconst (pc2 := 96) dX4_readPut_95 rfl ?_
            refine r_bipush (pc2 := 98) dX4_readPut_96 rfl (by decide) (by decide) ?_
            refine r_cv2 (pc2 := 101) dX4_readPut_98 rfl vX4_111 (hK_9 hS_M1) (by decide) (c_X4_readNumber (d := d + 1) (M := M1) (r := r_108) (lo := 0) (hi := 11) hS_M1 hT hC_M1 o_r_108 ⟨by omega, by omega⟩ ⟨by omega, by omega⟩) ?_
            rintro _ M9 ⟨z_109, hz_z_109, rfl, h9, hv_z_109⟩
            obtain ⟨z_1091, z_1092⟩ := hz_z_109
            obtain ⟨r_110, e_r_110⟩ : ∃ x, x = rN T 0 11 r_108 := ⟨_, rfl⟩
            rw [← e_r_110] at h9
            rw [h9]
            have o_r_110 : rOk T r_110 := by rw [e_r_110]; exact o_r_108.N hT
            have i_r_110 := o_r_110.2
            show Go (Ct (d + 3)) _ yX4_readPut cX4_readPut none 0 0 101 [some (.ref 9), some (.int (iI ((gS G : Nat) : Int))), some (.int (iI (kK T r_1.1))), some (.int (iI z_105)), some (.int (iI z_107)), none] [.int (iI z_109)] (rM M1 r_110)
            refine r_istore5 (pc2 := 103) dX4_readPut_101 rfl rfl ?_
            refine r_aload0 (pc2 := 104) dX4_readPut_103 rfl ?_
            refine r_bipush (pc2 := 106) dX4_readPut_104 rfl (by decide) (by decide) ?_
            refine r_cv1 (pc2 := 109) dX4_readPut_106 rfl vX4_115 (hK_9 hS_M1) (by decide) (c_X4_readKind (d := d + 1) (M := M1) (r := r_110) (k := 59) hS_M1 hT hC_M1 o_r_110 ⟨by omega, by omega⟩) ?_
            rintro _ M9 ⟨rfl, h9⟩
            obtain ⟨r_111, e_r_111⟩ : ∃ x, x = rK T 59 r_110 := ⟨_, rfl⟩
            rw [← e_r_111] at h9
            rw [h9]
            have o_r_111 : rOk T r_111 := by rw [e_r_111]; exact o_r_110.K hT
            have i_r_111 := o_r_111.2
            show Go (Ct (d + 3)) _ yX4_readPut cX4_readPut none 0 0 109 [some (.ref 9), some (.int (iI ((gS G : Nat) : Int))), some (.int (iI (kK T r_1.1))), some (.int (iI z_105)), some (.int (iI z_107)), some (.int (iI z_109))] [] (rM M1 r_111)
            refine r_aload0 (pc2 := 110) dX4_readPut_109 rfl ?_
            refine r_iload1 (pc2 := 111) dX4_readPut_110 rfl ?_
            refine r_iload2 (pc2 := 112) dX4_readPut_111 rfl ?_
            refine r_iload3 (pc2 := 113) dX4_readPut_112 rfl ?_
            refine r_iload4 (pc2 := 115) dX4_readPut_113 rfl ?_
            refine r_iload5 (pc2 := 117) dX4_readPut_115 rfl ?_
            refine r_cv5 (pc2 := 120) dX4_readPut_117 rfl vX4_118 (hK_9 hS_M1) (by decide) (c_X4_write (d := d + 2) (M := rM M1 r_111) (i := (gS G)) (x := (kK T r_1.1)) (y := z_105) (z := z_107) (w := z_109) hS_M1 (by omega)) ?_
            rintro _ M9 ⟨rfl, h9⟩
            rw [rM_o (by omega), rM_o (by omega), rM_o (by omega), rM_o (by omega)] at h9
            obtain ⟨W112, h_W112⟩ : ∃ x, x = pI (pI (pI (pI M1 12 (gS G) (kK T r_1.1)) 13 (gS G) z_105) 14 (gS G) z_107) 15 (gS G) z_109 := ⟨_, rfl⟩
            rw [← h_W112] at h9
            rw [h9]
            have hS_W112 : sOk W112.1 := by rw [h_W112]; exact hS_M1
            have hC_W112 : cT W112 T := by rw [h_W112]; exact hC_M1
            show Go (Ct (d + 3)) _ yX4_readPut cX4_readPut none 0 0 120 [some (.ref 9), some (.int (iI ((gS G : Nat) : Int))), some (.int (iI (kK T r_1.1))), some (.int (iI z_105)), some (.int (iI z_107)), some (.int (iI z_109))] [] (rM W112 r_111)
            refine r_ret dX4_readPut_120 rfl ?_
            have c_rg : ¬ (1 ≤ kK T r_1.1 ∧ kK T r_1.1 ≤ 9) := by omega
            have c_49 : ¬ (kK T r_1.1 = 4 ∨ kK T r_1.1 = 9) := by omega
            have c_6 : kK T r_1.1 = 6 := by omega
            have c_m : (kK T r_1.1 = 4 ∨ kK T r_1.1 = 9 ∨ kK T r_1.1 = 6 ∨ kK T r_1.1 = 7) := by omega
            have hl : lPut T r G = (r_111, gLine G 10 (kK T r_1.1) ((kV T r_82.1 : Nat) : Int) ((kV T r_106.1 : Nat) : Int) ((kV T r_108.1 : Nat) : Int)) := by
              unfold lPut
              dsimp only
              rw [← e_r_1, if_neg c_rg, ← e_r_81, ← e_r_82, if_neg c_49, if_pos c_6, ← e_r_106, if_pos c_m, ← e_r_108, ← e_r_110, ← e_r_111]
            rw [hl]
            have hW : W112 = _ := h_W112
            rw [h1] at hW
            refine ⟨rfl, (by rw [hW]; exact ((fr.I (((((((fr.rf.I (by decide)).I (by decide)).I (by decide)).I (by decide)).I (by decide)).I (by decide)).I (by decide)) (by decide)).I (by decide))), rfl, fun q => ⟨rfl, ?_⟩⟩
            have f_r_111 := rK_0 (k := 59) hT o_r_110 (by omega) (by rw [← e_r_111]; exact q)
            have f_r_110 := rN_0 (lo := 0) (hi := 11) hT o_r_108 (by rw [← e_r_110]; exact f_r_111.1)
            have v_z_109 := hv_z_109 (by rw [← e_r_110]; exact f_r_111.1)
            have f_r_108 := rN_0 (lo := 0) (hi := 12) hT o_r_106 (by rw [← e_r_108]; exact f_r_110.1)
            have v_z_107 := hv_z_107 (by rw [← e_r_108]; exact f_r_110.1)
            have f_r_106 := rN_0 (lo := 0) (hi := 3) hT o_r_82 (by rw [← e_r_106]; exact f_r_108.1)
            have v_z_105 := hv_z_105 (by rw [← e_r_106]; exact f_r_108.1)
            have f_r_82 : r_81.2 = 0 := av_0 (by rw [← e_r_82]; exact f_r_106.1)
            exact absurd (show (fl T 1 r_1).2 = 0 from by rw [← e_r_81]; exact f_r_82) (fl_f (by omega) i_r_1.1)
        · refine r_aload0 (pc2 := 46) dX4_readPut_45 rfl ?_
          refine r_iconst (pc2 := 47) dX4_readPut_46 rfl ?_
          refine r_iconst (pc2 := 48) dX4_readPut_47 rfl ?_
          refine r_cv2 (pc2 := 51) dX4_readPut_48 rfl vX4_111 (hK_9 hS_M1) (by decide) (c_X4_readNumber (d := d + 1) (M := M1) (r := r_82) (lo := 0) (hi := 1) hS_M1 hT hC_M1 o_r_82 ⟨by omega, by omega⟩ ⟨by omega, by omega⟩) ?_
          rintro _ M9 ⟨z_113, hz_z_113, rfl, h9, hv_z_113⟩
          obtain ⟨z_1131, z_1132⟩ := hz_z_113
          obtain ⟨r_114, e_r_114⟩ : ∃ x, x = rN T 0 1 r_82 := ⟨_, rfl⟩
          rw [← e_r_114] at h9
          rw [h9]
          have o_r_114 : rOk T r_114 := by rw [e_r_114]; exact o_r_82.N hT
          have i_r_114 := o_r_114.2
          show Go (Ct (d + 3)) _ yX4_readPut cX4_readPut none 0 0 51 [some (.ref 9), some (.int (iI ((gS G : Nat) : Int))), some (.int (iI (kK T r_1.1))), some (.int (iI 0)), none, none] [.int (iI z_113)] (rM M1 r_114)
          refine r_istore3 (pc2 := 52) dX4_readPut_51 rfl rfl ?_
          refine r_goto (tgt := 85) dX4_readPut_52 (by decide) ?_
          refine r_aload0 (pc2 := 86) dX4_readPut_85 rfl ?_
          refine r_iconst (pc2 := 87) dX4_readPut_86 rfl ?_
          refine r_bipush (pc2 := 89) dX4_readPut_87 rfl (by decide) (by decide) ?_
          refine r_cv2 (pc2 := 92) dX4_readPut_89 rfl vX4_111 (hK_9 hS_M1) (by decide) (c_X4_readNumber (d := d + 1) (M := M1) (r := r_114) (lo := 0) (hi := 12) hS_M1 hT hC_M1 o_r_114 ⟨by omega, by omega⟩ ⟨by omega, by omega⟩) ?_
          rintro _ M9 ⟨z_115, hz_z_115, rfl, h9, hv_z_115⟩
          obtain ⟨z_1151, z_1152⟩ := hz_z_115
          obtain ⟨r_116, e_r_116⟩ : ∃ x, x = rN T 0 12 r_114 := ⟨_, rfl⟩
          rw [← e_r_116] at h9
          rw [h9]
          have o_r_116 : rOk T r_116 := by rw [e_r_116]; exact o_r_114.N hT
          have i_r_116 := o_r_116.2
          show Go (Ct (d + 3)) _ yX4_readPut cX4_readPut none 0 0 92 [some (.ref 9), some (.int (iI ((gS G : Nat) : Int))), some (.int (iI (kK T r_1.1))), some (.int (iI z_113)), none, none] [.int (iI z_115)] (rM M1 r_116)
          refine r_istore4 (pc2 := 94) dX4_readPut_92 rfl rfl ?_
          refine r_aload0 (pc2 := 95) dX4_readPut_94 rfl ?_
          refine r_iconst (pc2 := 96) dX4_readPut_95 rfl ?_
          refine r_bipush (pc2 := 98) dX4_readPut_96 rfl (by decide) (by decide) ?_
          refine r_cv2 (pc2 := 101) dX4_readPut_98 rfl vX4_111 (hK_9 hS_M1) (by decide) (c_X4_readNumber (d := d + 1) (M := M1) (r := r_116) (lo := 0) (hi := 11) hS_M1 hT hC_M1 o_r_116 ⟨by omega, by omega⟩ ⟨by omega, by omega⟩) ?_
          rintro _ M9 ⟨z_117, hz_z_117, rfl, h9, hv_z_117⟩
          obtain ⟨z_1171, z_1172⟩ := hz_z_117
          obtain ⟨r_118, e_r_118⟩ : ∃ x, x = rN T 0 11 r_116 := ⟨_, rfl⟩
          rw [← e_r_118] at h9
          rw [h9]
          have o_r_118 : rOk T r_118 := by rw [e_r_118]; exact o_r_116.N hT
          have i_r_118 := o_r_118.2
          show Go (Ct (d + 3)) _ yX4_readPut cX4_readPut none 0 0 101 [some (.ref 9), some (.int (iI ((gS G : Nat) : Int))), some (.int (iI (kK T r_1.1))), some (.int (iI z_113)), some (.int (iI z_115)), none] [.int (iI z_117)] (rM M1 r_118)
          refine r_istore5 (pc2 := 103) dX4_readPut_101 rfl rfl ?_
          refine r_aload0 (pc2 := 104) dX4_readPut_103 rfl ?_
          refine r_bipush (pc2 := 106) dX4_readPut_104 rfl (by decide) (by decide) ?_
          refine r_cv1 (pc2 := 109) dX4_readPut_106 rfl vX4_115 (hK_9 hS_M1) (by decide) (c_X4_readKind (d := d + 1) (M := M1) (r := r_118) (k := 59) hS_M1 hT hC_M1 o_r_118 ⟨by omega, by omega⟩) ?_
          rintro _ M9 ⟨rfl, h9⟩
          obtain ⟨r_119, e_r_119⟩ : ∃ x, x = rK T 59 r_118 := ⟨_, rfl⟩
          rw [← e_r_119] at h9
          rw [h9]
          have o_r_119 : rOk T r_119 := by rw [e_r_119]; exact o_r_118.K hT
          have i_r_119 := o_r_119.2
          show Go (Ct (d + 3)) _ yX4_readPut cX4_readPut none 0 0 109 [some (.ref 9), some (.int (iI ((gS G : Nat) : Int))), some (.int (iI (kK T r_1.1))), some (.int (iI z_113)), some (.int (iI z_115)), some (.int (iI z_117))] [] (rM M1 r_119)
          refine r_aload0 (pc2 := 110) dX4_readPut_109 rfl ?_
          refine r_iload1 (pc2 := 111) dX4_readPut_110 rfl ?_
          refine r_iload2 (pc2 := 112) dX4_readPut_111 rfl ?_
          refine r_iload3 (pc2 := 113) dX4_readPut_112 rfl ?_
          refine r_iload4 (pc2 := 115) dX4_readPut_113 rfl ?_
          refine r_iload5 (pc2 := 117) dX4_readPut_115 rfl ?_
          refine r_cv5 (pc2 := 120) dX4_readPut_117 rfl vX4_118 (hK_9 hS_M1) (by decide) (c_X4_write (d := d + 2) (M := rM M1 r_119) (i := (gS G)) (x := (kK T r_1.1)) (y := z_113) (z := z_115) (w := z_117) hS_M1 (by omega)) ?_
          rintro _ M9 ⟨rfl, h9⟩
          rw [rM_o (by omega), rM_o (by omega), rM_o (by omega), rM_o (by omega)] at h9
          obtain ⟨W120, h_W120⟩ : ∃ x, x = pI (pI (pI (pI M1 12 (gS G) (kK T r_1.1)) 13 (gS G) z_113) 14 (gS G) z_115) 15 (gS G) z_117 := ⟨_, rfl⟩
          rw [← h_W120] at h9
          rw [h9]
          have hS_W120 : sOk W120.1 := by rw [h_W120]; exact hS_M1
          have hC_W120 : cT W120 T := by rw [h_W120]; exact hC_M1
          show Go (Ct (d + 3)) _ yX4_readPut cX4_readPut none 0 0 120 [some (.ref 9), some (.int (iI ((gS G : Nat) : Int))), some (.int (iI (kK T r_1.1))), some (.int (iI z_113)), some (.int (iI z_115)), some (.int (iI z_117))] [] (rM W120 r_119)
          refine r_ret dX4_readPut_120 rfl ?_
          have c_rg : ¬ (1 ≤ kK T r_1.1 ∧ kK T r_1.1 ≤ 9) := by omega
          have c_49 : (kK T r_1.1 = 4 ∨ kK T r_1.1 = 9) := by omega
          have c_m : (kK T r_1.1 = 4 ∨ kK T r_1.1 = 9 ∨ kK T r_1.1 = 6 ∨ kK T r_1.1 = 7) := by omega
          have hl : lPut T r G = (r_119, gLine G 10 (kK T r_1.1) ((kV T r_82.1 : Nat) : Int) ((kV T r_114.1 : Nat) : Int) ((kV T r_116.1 : Nat) : Int)) := by
            unfold lPut
            dsimp only
            rw [← e_r_1, if_neg c_rg, ← e_r_81, ← e_r_82, if_pos c_49, ← e_r_114, if_pos c_m, ← e_r_116, ← e_r_118, ← e_r_119]
          rw [hl]
          have hW : W120 = _ := h_W120
          rw [h1] at hW
          refine ⟨rfl, (by rw [hW]; exact ((fr.I (((((((fr.rf.I (by decide)).I (by decide)).I (by decide)).I (by decide)).I (by decide)).I (by decide)).I (by decide)) (by decide)).I (by decide))), rfl, fun q => ⟨rfl, ?_⟩⟩
          have f_r_119 := rK_0 (k := 59) hT o_r_118 (by omega) (by rw [← e_r_119]; exact q)
          have f_r_118 := rN_0 (lo := 0) (hi := 11) hT o_r_116 (by rw [← e_r_118]; exact f_r_119.1)
          have v_z_117 := hv_z_117 (by rw [← e_r_118]; exact f_r_119.1)
          have f_r_116 := rN_0 (lo := 0) (hi := 12) hT o_r_114 (by rw [← e_r_116]; exact f_r_118.1)
          have v_z_115 := hv_z_115 (by rw [← e_r_116]; exact f_r_118.1)
          have f_r_114 := rN_0 (lo := 0) (hi := 1) hT o_r_82 (by rw [← e_r_114]; exact f_r_116.1)
          have v_z_113 := hv_z_113 (by rw [← e_r_114]; exact f_r_116.1)
          have f_r_82 : r_81.2 = 0 := av_0 (by rw [← e_r_82]; exact f_r_114.1)
          exact absurd (show (fl T 1 r_1).2 = 0 from by rw [← e_r_81]; exact f_r_82) (fl_f (by omega) i_r_1.1)
