/-! the model's readBlock, readLet -/
theorem MG.cls {M : pM} {G : gPr} (h : MG M G) (hA : ¬ gA G (gO G (gD G - 1)) = 13) : MG (pI M 325 (gO G (gD G - 1)) ((gS G : Nat) : Int)) (gClose G) := by
  obtain ⟨h1, h2, h3, h4⟩ := h
  have eT : gT (gClose G) = gT G := if_neg hA
  refine ⟨h1, by rw [eT]; exact h2, fun i hi => ?_, fun k hk => by rw [eT] at hk; exact h4 k hk⟩
  obtain ⟨l1, l2, l3⟩ := h3 i hi
  refine ⟨l1, ?_, ?_⟩
  · show va_up (M.2.1 325) (gO G (gD G - 1)) _ i = va_up (gE G) (gO G (gD G - 1)) _ i
    by_cases e : i = gO G (gD G - 1)
    · subst e; rw [up_at, up_at]
    · rw [up_ne e, up_ne e]; exact l2
  · unfold mArg at l3 ⊢
    rw [eT]
    exact l3
theorem MG.clsL {M : pM} {G : gPr} {x : Nat} (h : MG M G) (hA : gA G (gO G (gD G - 1)) = 13) (hN : gN G (gT G) = x) (hL : gL G (gT G) = gO G (gD G - 1)) : MG (pI (pI (pJ (pI M 325 (gO G (gD G - 1)) ((gS G : Nat) : Int)) 326 (gT G) (lN (m37 8 x))) 327 (gT G) ((gO G (gD G - 1) : Nat) : Int)) 317 14 (((gT G + 1 : Nat)) : Int)) (gClose G) := by
  obtain ⟨h1, h2, h3, h4⟩ := h
  have eT : gT (gClose G) = gT G + 1 := if_pos hA
  refine ⟨h1, by rw [eT]; rfl, fun i hi => ?_, fun k hk => ?_⟩
  · obtain ⟨l1, l2, l3⟩ := h3 i hi
    refine ⟨l1, ?_, ?_⟩
    · show va_up (M.2.1 325) (gO G (gD G - 1)) _ i = va_up (gE G) (gO G (gD G - 1)) _ i
      by_cases e : i = gO G (gD G - 1)
      · subst e; rw [up_at, up_at]
      · rw [up_ne e, up_ne e]; exact l2
    · obtain ⟨m1, m2, m3, m4, m5⟩ := l3
      refine ⟨m1, fun q => ?_, m3, m4, m5⟩
      obtain ⟨k, k1, k2, k3⟩ := m2 q
      exact ⟨k, by rw [eT]; omega, k2, k3⟩
  · rw [eT] at hk
    show va_up (M.2.2 326) (gT G) (lN (m37 8 x)) k = lN (m37 8 (gN G k)) ∧ va_up (M.2.1 327) (gT G) _ k = ((gL G k : Nat) : Int)
    by_cases e : k = gT G
    · subst e; rw [up_at, up_at, hN, hL]; exact ⟨rfl, rfl⟩
    · rw [up_ne e, up_ne e]; exact h4 k (by omega)
theorem sst_cls {G Y : gPr} {a x y z w : Int} (ha : ¬ a = 13) (h : sst (gOpen (gLine G a x y z w) (gS G)) Y) : sst G (gClose Y) ∧ gO Y (gD Y - 1) = gS G ∧ ¬ gA Y (gO Y (gD Y - 1)) = 13 ∧ gD Y = gD G + 1 := by
  obtain ⟨h1, h2, h3, h4, h5⟩ := h
  have eD : gD Y = gD G + 1 := h1
  have eO : gO Y (gD Y - 1) = gS G := by
    rw [eD, Nat.add_sub_cancel, h2 (gD G) (by show gD G < gD G + 1; omega)]
    exact up_at
  have eA : ¬ gA Y (gO Y (gD Y - 1)) = 13 := by
    rw [eO, h4 (gS G) (by show gS G < gS G + 1; omega)]
    show ¬ va_up (gA G) (gS G) a (gS G) = 13
    rw [up_at]; exact ha
  have h5 := h5 (by show 0 < gD G + 1; omega)
  refine ⟨⟨by show gD Y - 1 = gD G; omega, fun q hq => ?_, ?_, fun i hi => ?_, fun q => ?_⟩, eO, eA, eD⟩
  · show gO Y q = gO G q
    rw [h2 q (by show q < gD G + 1; omega)]
    show va_up (gO G) (gD G) (gS G) q = gO G q
    rw [up_ne (by omega)]
  · have h3 : gS G + 1 ≤ gS Y := h3
    show gS G ≤ gS Y
    omega
  · show gA Y i = gA G i
    rw [h4 i (by show i < gS G + 1; omega)]
    show va_up (gA G) (gS G) a i = gA G i
    rw [up_ne (by omega)]
  · exact ⟨(show gT (gClose Y) = gT Y from if_neg eA).trans h5.1, h5.2.1, h5.2.2⟩
theorem nst_opn {G : gPr} {a x y z w : Int} (hg : gOk G) (ha : ¬ a = 13) : nst (gOpen (gLine G a x y z w) (gS G)) = nst G + 1 := by
  have e : iL (gOpen (gLine G a x y z w) (gS G)) = iL G := by
    unfold iL
    show (if 0 < gD G + 1 ∧ va_up (gA G) (gS G) a (va_up (gO G) (gD G) (gS G) 0) = 13 then 1 else 0) = (if 0 < gD G ∧ gA G (gO G 0) = 13 then 1 else 0)
    by_cases q : gD G = 0
    · rw [q, up_at, up_at, if_neg (fun c => ha c.2), if_neg (fun c => absurd c.1 (by omega))]
    · have := hg.2.2.2.1 0 (by omega)
      rw [up_ne (show 0 ≠ gD G by omega), up_ne (show gO G 0 ≠ gS G by omega)]
      by_cases c : gA G (gO G 0) = 13
      · rw [if_pos ⟨by omega, c⟩, if_pos ⟨by omega, c⟩]
      · rw [if_neg (fun d => c d.2), if_neg (fun d => c d.2)]
  rw [nst_e, nst_e, e]
  have := iL_D (G := G)
  show gD G + 1 - iL G = gD G - iL G + 1
  omega
theorem blk4 {T : tD} {r : rdT} {G : gPr} (ho : rOk T r) (h4 : nst G = 4) (hk : kK T r.1 = 11 ∨ kK T r.1 = 12) : (pst T (r, G)).1 = fl T 5 r := by
  have hf : ¬ (fl T 5 r).2 = 0 := fl_f (by omega) ho.2.1
  have hc : cNs T r G = fl T 5 r := if_pos (by omega)
  rcases hk with hk | hk
  · rw [pst_11 hk]
    unfold lAgain
    dsimp only
    rw [hc, av_n hf, rN_n hf, rK_n hf, rS_n hf, rS_n hf, rK_n hf]
  · rw [pst_12 hk]
    unfold lMirror
    dsimp only
    rw [hc, av_n hf, rN_n hf, rK_n hf]

set_option maxHeartbeats 4000000 in
theorem c_X12_readBlock4 {n : Nat} {M : pM} {T : tD} {r : rdT} {G : gPr} (hM : mSt M T r G) (h4 : nst G = 4) (hk : kK T r.1 = 11 ∨ kK T r.1 = 12) : Ct (n + 5) 0 0 yX12_readBlock [.ref 317, .int (iI ((nst G : Nat) : Int))] (mM M r) (fun v M2 => v = none ∧ LNq T M M2 (r, G)) := by
  obtain ⟨hS, hT, hC, hW, hx, z_r, hG⟩ := id hM
  have o_r := hx.1
  have i_r : 0 ≤ r.2 ∧ r.2 ≤ 16005 := o_r.2
  refine ct_in (d := (n + 4)) kX12_readBlock rfl (by decide) (Nat.le_of_ble_eq_true rfl) (by decide) ?_
  show Go (Ct (n + 4)) _ yX12_readBlock cX12_readBlock none 0 0 0 [some (.ref 317), some (.int (iI ((nst G : Nat) : Int))), none, none] [] (mM M r)
  refine r_iload1 (pc2 := 1) dX12_readBlock_0 rfl ?_
  refine r_iconst (pc2 := 2) dX12_readBlock_1 rfl ?_
  refine r_icne (tgt := 11) (pc2 := 5) dX12_readBlock_2 rfl (by decide) ⟨by omega, by omega⟩ ⟨by omega, by omega⟩ (fun b_2 => ?_) (fun b_2 => ?_)
  · exact absurd (show ((nst G : Nat) : Int) = 4 by omega) b_2
  · refine r_aload0 (pc2 := 6) dX12_readBlock_5 rfl ?_
    refine r_iconst (pc2 := 7) dX12_readBlock_6 rfl ?_
    refine r_cv1 (pc2 := 10) dX12_readBlock_7 rfl vX12_188 (hK_317 hS) (by decide) (c_X12_wrong (d := n + 3) (M := M) (r := r) (w := 5) hS hT hC o_r (by omega)) ?_
    rintro _ M9 ⟨rfl, h9⟩
    obtain ⟨r_94, e_r_94⟩ : ∃ x, x = fl T 5 r := ⟨_, rfl⟩
    rw [← e_r_94] at h9
    rw [h9]
    have o_r_94 : rOk T r_94 := by rw [e_r_94]; exact o_r.f hT (by omega) (by omega)
    have i_r_94 := o_r_94.2
    have t_r_94 := o_r_94.1
    show Go (Ct (n + 4)) _ yX12_readBlock cX12_readBlock none 0 0 10 [some (.ref 317), some (.int (iI ((nst G : Nat) : Int))), none, none] [] (mM M r_94)
    refine r_ret dX12_readBlock_10 rfl ?_
    have z9 : ¬ r_94.2 = 0 := by rw [e_r_94]; exact fl_f (by omega) i_r.1
    exact ⟨rfl, 0, pst T (r, G), M, r_94, ⟨nrd z_r (Or.inl (by show ¬ kK T r.1 = 22; omega)), rfl⟩, rfl, frP.rf, o_r_94, by rw [rK_n z9, blk4 o_r h4 hk, e_r_94], fun q => absurd q z9, fun q => absurd q (by rw [blk4 o_r h4 hk, ← e_r_94]; exact z9)⟩
set_option maxHeartbeats 8000000 in
theorem blk {n e : Nat} (hI : RLp n e) : BLp (n + 2) (e + 1) := by
  intro M T r G hM he hk
  by_cases h4 : nst G = 4
  · exact c_X12_readBlock4 hM h4 hk
  obtain ⟨hS, hT, hC, hW, hx, z_r, hG⟩ := id hM
  have o_r := hx.1
  obtain ⟨⟨u, ns, hP⟩, hp⟩ := hx.2 z_r
  have hP : PV G u ns := hP
  have h125 : gS G < 125 := pos_125 hT o_r hp (by show 10 ≤ kK T r.1 ∧ kK T r.1 ≤ 16; omega)
  have i_r : 0 ≤ r.2 ∧ r.2 ≤ 16005 := o_r.2
  have t_r : r.1 ≤ T.1 := o_r.1
  have hT1 := hT.1
  have hg := hP.ok
  have hn4 : nst G < 4 := by have := hP.1.2.2.1; omega
  have l_r := K_lt (i := r.1) hT t_r (by omega)
  have hcn : cNs T r G = r := if_neg (by omega)
  refine ct_in (d := (n + 6)) kX12_readBlock rfl (by decide) (Nat.le_of_ble_eq_true rfl) (by decide) ?_
  show Go (Ct (n + 6)) _ yX12_readBlock cX12_readBlock none 0 0 0 [some (.ref 317), some (.int (iI ((nst G : Nat) : Int))), none, none] [] (mM M r)
  refine r_iload1 (pc2 := 1) dX12_readBlock_0 rfl ?_
  refine r_iconst (pc2 := 2) dX12_readBlock_1 rfl ?_
  refine r_icne (tgt := 11) (pc2 := 5) dX12_readBlock_2 rfl (by decide) ⟨by omega, by omega⟩ ⟨by omega, by omega⟩ (fun b_2 => ?_) (fun b_2 => ?_)
  · refine r_aload0 (pc2 := 12) dX12_readBlock_11 rfl ?_
    refine r_iconst (pc2 := 13) dX12_readBlock_12 rfl ?_
    refine r_cv1 (pc2 := 16) dX12_readBlock_13 rfl vX12_192 (hK_317 hS) (by decide) (c_X12_isWord (d := n + 5) (M := M) (r := r) (w := 1) hS hT hC o_r hW (by omega)) ?_
    rintro _ M9 ⟨h9, ⟨hq, rfl⟩ | ⟨hq, rfl⟩⟩
    · have k11 : kK T r.1 = 11 := hq.2
      rw [h9]
      show Go (Ct (n + 6)) _ yX12_readBlock cX12_readBlock none 0 0 16 [some (.ref 317), some (.int (iI ((nst G : Nat) : Int))), none, none] [.int (iI 1)] (mM M r)
      refine r_istore2 (pc2 := 17) dX12_readBlock_16 rfl rfl ?_
      refine r_aload0 (pc2 := 18) dX12_readBlock_17 rfl ?_
      refine r_iload2 (pc2 := 19) dX12_readBlock_18 rfl ?_
      refine r_ifeq (tgt := 26) (pc2 := 22) dX12_readBlock_19 rfl (by decide) ⟨by omega, by omega⟩ (fun h9 => absurd h9 (by decide)) (fun _ => ?_)
      refine r_iconst (pc2 := 23) dX12_readBlock_22 rfl ?_
      refine r_goto (tgt := 27) dX12_readBlock_23 (by decide) ?_
      refine r_cv1 (pc2 := 30) dX12_readBlock_27 rfl vX12_229 (hK_317 hS) (by decide) (c_X12_emit (d := n + 5) (M := mM M r) (i := gS G) (c := 1) hS hG.1 h125) ?_
      rintro _ M9 ⟨rfl, h9⟩
      rw [eM_m] at h9
      rw [h9]
      obtain ⟨N95, h_N95⟩ : ∃ x, x = eM M (gS G) 1 := ⟨_, rfl⟩
      rw [← h_N95]
      have p_N95 : frP M N95 := by rw [h_N95]; exact frP.rf.e
      have hS_N95 : sOk N95.1 := p_N95.1.ok hS
      have hC_N95 : mT N95 T := hC.fp p_N95
      have hW_N95 : mWd N95 := hW.fp p_N95
      show Go (Ct (n + 6)) _ yX12_readBlock cX12_readBlock none 0 0 30 [some (.ref 317), some (.int (iI ((nst G : Nat) : Int))), some (.int (iI 1)), none] [.int (iI ((gS G : Nat) : Int))] (mM N95 r)
      refine r_istore3 (pc2 := 31) dX12_readBlock_30 rfl rfl ?_
      refine r_aload0 (pc2 := 32) dX12_readBlock_31 rfl ?_
      refine r_dup (pc2 := 33) dX12_readBlock_32 rfl rfl ?_
      refine r_getI (z := ((r.1 : Nat) : Int)) (pc2 := 36) dX12_readBlock_33 rfl (Or.inl fX12_179) (hK_317 hS_N95) mM_t ?_
      refine r_iconst (pc2 := 37) dX12_readBlock_36 rfl ?_
      refine r_iadd (c := (((r.1 + 1) : Nat) : Int)) (pc2 := 38) dX12_readBlock_37 rfl (by omega) ?_
      refine r_putI (z := (((r.1 + 1) : Nat) : Int)) (pc2 := 41) dX12_readBlock_38 rfl fX12_179 (w12_7 _) (hK_317 hS_N95) (by decide) ?_
      refine r_iload2 (pc2 := 42) dX12_readBlock_41 rfl ?_
      refine r_ifeq (tgt := 97) (pc2 := 45) dX12_readBlock_42 rfl (by decide) ⟨by omega, by omega⟩ (fun h9 => absurd h9 (by decide)) (fun _ => ?_)
      refine r_aload0 (pc2 := 46) dX12_readBlock_45 rfl ?_
      refine r_getR (pc2 := 49) dX12_readBlock_46 rfl fX12_74 (hK_317 hS_N95) (hR_317_12 hS_N95) ?_
      refine r_iconst (pc2 := 50) dX12_readBlock_49 rfl ?_
      refine r_iload3 (pc2 := 51) dX12_readBlock_50 rfl ?_
      refine r_imul (c := ((5 * gS G : Nat) : Int)) (pc2 := 52) dX12_readBlock_51 rfl (by omega) ?_
      refine r_aload0 (pc2 := 53) dX12_readBlock_52 rfl ?_
      refine r_iconst (pc2 := 54) dX12_readBlock_53 rfl ?_
      refine r_bipush (pc2 := 56) dX12_readBlock_54 rfl (by decide) (by decide) ?_
      rw [mM_a]
      obtain ⟨r_96, e_r_96⟩ : ∃ x, x = av T r := ⟨_, rfl⟩
      have q_r_96 : r_96 = (r.1 + 1, 0) := by rw [e_r_96, av_y z_r l_r]
      rw [show ((r.1 + 1, r.2) : rdT) = r_96 from by rw [q_r_96, z_r]]
      have o_r_96 : rOk T r_96 := by rw [e_r_96]; exact o_r.a
      have z_r_96 : r_96.2 = 0 := by rw [q_r_96]
      have i_r_96 := o_r_96.2
      have t_r_96 := o_r_96.1
      refine r_cv2 (pc2 := 59) dX12_readBlock_56 rfl vX12_204 (hK_317 hS_N95) (Nat.le_of_ble_eq_true rfl) (c_X12_takeNumber (d := n + 4) (M := N95) (r := r_96) (lo := 1) (hi := 12) hS_N95 hT hC_N95 o_r_96 ⟨by omega, by omega⟩ ⟨by omega, by omega⟩) ?_
      rintro _ M9 ⟨z_97, hz_z_97, rfl, h9, hv_z_97⟩
      obtain ⟨z_971, z_972⟩ := hz_z_97
      obtain ⟨r_98, e_r_98⟩ : ∃ x, x = rN T 1 12 r_96 := ⟨_, rfl⟩
      rw [← e_r_98] at h9
      rw [h9]
      have o_r_98 : rOk T r_98 := by rw [e_r_98]; exact o_r_96.N hT
      have i_r_98 := o_r_98.2
      have t_r_98 := o_r_98.1
      show Go (Ct (n + 6)) _ yX12_readBlock cX12_readBlock none 0 0 59 [some (.ref 317), some (.int (iI ((nst G : Nat) : Int))), some (.int (iI 1)), some (.int (iI ((gS G : Nat) : Int)))] [.int (iI z_97), .int (iI ((5 * gS G : Nat) : Int)), .ref 324] (mM N95 r_98)
      refine r_iast (z := z_97) (pc2 := 60) dX12_readBlock_59 rfl (hK_324 hS_N95) (by decide) (5 * gS G) rfl (by omega) ?_
      refine r_aload0 (pc2 := 61) dX12_readBlock_60 rfl ?_
      refine r_bipush (pc2 := 63) dX12_readBlock_61 rfl (by decide) (by decide) ?_
      rw [mM_o (by omega)]
      obtain ⟨N99, h_N99⟩ : ∃ x, x = pI N95 324 (5 * gS G) z_97 := ⟨_, rfl⟩
      rw [← h_N99]
      have p_N99 : frP N95 N99 := by rw [h_N99]; exact frP.rf.I (Or.inl (by decide))
      have hS_N99 : sOk N99.1 := p_N99.1.ok hS_N95
      have hC_N99 : mT N99 T := hC_N95.fp p_N99
      have hW_N99 : mWd N99 := hW_N95.fp p_N99
      refine r_cv1 (pc2 := 66) dX12_readBlock_63 rfl vX12_232 (hK_317 hS_N99) (by decide) (c_X12_takeWord (d := n + 3) (M := N99) (r := r_98) hS_N99 hT hC_N99 o_r_98 hW_N99) ?_
      rintro _ M9 ⟨rfl, h9⟩
      obtain ⟨r_100, e_r_100⟩ : ∃ x, x = rK T 17 r_98 := ⟨_, rfl⟩
      rw [← e_r_100] at h9
      rw [h9]
      have o_r_100 : rOk T r_100 := by rw [e_r_100]; exact o_r_98.K hT
      have i_r_100 := o_r_100.2
      have t_r_100 := o_r_100.1
      show Go (Ct (n + 6)) _ yX12_readBlock cX12_readBlock none 0 0 66 [some (.ref 317), some (.int (iI ((nst G : Nat) : Int))), some (.int (iI 1)), some (.int (iI ((gS G : Nat) : Int)))] [] (mM N99 r_100)
      refine r_aload0 (pc2 := 67) dX12_readBlock_66 rfl ?_
      refine r_getR (pc2 := 70) dX12_readBlock_67 rfl fX12_74 (hK_317 hS_N99) (hR_317_12 hS_N99) ?_
      refine r_iconst (pc2 := 71) dX12_readBlock_70 rfl ?_
      refine r_iload3 (pc2 := 72) dX12_readBlock_71 rfl ?_
      refine r_imul (c := ((5 * gS G : Nat) : Int)) (pc2 := 73) dX12_readBlock_72 rfl (by omega) ?_
      refine r_iconst (pc2 := 74) dX12_readBlock_73 rfl ?_
      refine r_iadd (c := (((5 * gS G : Nat) : Int) + 1)) (pc2 := 75) dX12_readBlock_74 rfl rfl ?_
      refine r_aload0 (pc2 := 76) dX12_readBlock_75 rfl ?_
      refine r_cv0 (pc2 := 79) dX12_readBlock_76 rfl vX12_235 (hK_317 hS_N99) (Nat.le_of_ble_eq_true rfl) (c_X12_takeShift (d := n + 2) (M := N99) (r := r_100) hS_N99 hT hC_N99 o_r_100) ?_
      rintro _ M9 ⟨z_101, hz_z_101, rfl, h9, hv_z_101⟩
      obtain ⟨z_1011, z_1012⟩ := hz_z_101
      obtain ⟨r_102, e_r_102⟩ : ∃ x, x = rS T r_100 := ⟨_, rfl⟩
      rw [← e_r_102] at h9
      rw [h9]
      have o_r_102 : rOk T r_102 := by rw [e_r_102]; exact o_r_100.S hT
      have i_r_102 := o_r_102.2
      have t_r_102 := o_r_102.1
      show Go (Ct (n + 6)) _ yX12_readBlock cX12_readBlock none 0 0 79 [some (.ref 317), some (.int (iI ((nst G : Nat) : Int))), some (.int (iI 1)), some (.int (iI ((gS G : Nat) : Int)))] [.int (iI z_101), .int (iI (((5 * gS G : Nat) : Int) + 1)), .ref 324] (mM N99 r_102)
      refine r_iast (z := z_101) (pc2 := 80) dX12_readBlock_79 rfl (hK_324 hS_N99) (by decide) (5 * gS G + 1) (by omega) (by omega) ?_
      refine r_aload0 (pc2 := 81) dX12_readBlock_80 rfl ?_
      refine r_getR (pc2 := 84) dX12_readBlock_81 rfl fX12_74 (hK_317 hS_N99) (hR_317_12 hS_N99) ?_
      refine r_iconst (pc2 := 85) dX12_readBlock_84 rfl ?_
      refine r_iload3 (pc2 := 86) dX12_readBlock_85 rfl ?_
      refine r_imul (c := ((5 * gS G : Nat) : Int)) (pc2 := 87) dX12_readBlock_86 rfl (by omega) ?_
      refine r_iconst (pc2 := 88) dX12_readBlock_87 rfl ?_
      refine r_iadd (c := (((5 * gS G : Nat) : Int) + 2)) (pc2 := 89) dX12_readBlock_88 rfl rfl ?_
      refine r_aload0 (pc2 := 90) dX12_readBlock_89 rfl ?_
      rw [mM_o (by omega)]
      obtain ⟨N103, h_N103⟩ : ∃ x, x = pI N99 324 (5 * gS G + 1) z_101 := ⟨_, rfl⟩
      rw [← h_N103]
      have p_N103 : frP N99 N103 := by rw [h_N103]; exact frP.rf.I (Or.inl (by decide))
      have hS_N103 : sOk N103.1 := p_N103.1.ok hS_N99
      have hC_N103 : mT N103 T := hC_N99.fp p_N103
      have hW_N103 : mWd N103 := hW_N99.fp p_N103
      refine r_cv0 (pc2 := 93) dX12_readBlock_90 rfl vX12_235 (hK_317 hS_N103) (Nat.le_of_ble_eq_true rfl) (c_X12_takeShift (d := n + 2) (M := N103) (r := r_102) hS_N103 hT hC_N103 o_r_102) ?_
      rintro _ M9 ⟨z_104, hz_z_104, rfl, h9, hv_z_104⟩
      obtain ⟨z_1041, z_1042⟩ := hz_z_104
      obtain ⟨r_105, e_r_105⟩ : ∃ x, x = rS T r_102 := ⟨_, rfl⟩
      rw [← e_r_105] at h9
      rw [h9]
      have o_r_105 : rOk T r_105 := by rw [e_r_105]; exact o_r_102.S hT
      have i_r_105 := o_r_105.2
      have t_r_105 := o_r_105.1
      show Go (Ct (n + 6)) _ yX12_readBlock cX12_readBlock none 0 0 93 [some (.ref 317), some (.int (iI ((nst G : Nat) : Int))), some (.int (iI 1)), some (.int (iI ((gS G : Nat) : Int)))] [.int (iI z_104), .int (iI (((5 * gS G : Nat) : Int) + 2)), .ref 324] (mM N103 r_105)
      refine r_iast (z := z_104) (pc2 := 94) dX12_readBlock_93 rfl (hK_324 hS_N103) (by decide) (5 * gS G + 2) (by omega) (by omega) ?_
      refine r_goto (tgt := 112) dX12_readBlock_94 (by decide) ?_
      refine r_aload0 (pc2 := 113) dX12_readBlock_112 rfl ?_
      refine r_bipush (pc2 := 115) dX12_readBlock_113 rfl (by decide) (by decide) ?_
      rw [mM_o (by omega)]
      obtain ⟨N106, h_N106⟩ : ∃ x, x = pI N103 324 (5 * gS G + 2) z_104 := ⟨_, rfl⟩
      rw [← h_N106]
      have p_N106 : frP N103 N106 := by rw [h_N106]; exact frP.rf.I (Or.inl (by decide))
      have hS_N106 : sOk N106.1 := p_N106.1.ok hS_N103
      have hC_N106 : mT N106 T := hC_N103.fp p_N106
      have hW_N106 : mWd N106 := hW_N103.fp p_N106
      refine r_cv1 (pc2 := 118) dX12_readBlock_115 rfl vX12_226 (hK_317 hS_N106) (by decide) (c_X12_takeSign (d := n + 4) (M := N106) (r := r_105) (c := 40) hS_N106 hT hC_N106 o_r_105 (by omega)) ?_
      rintro _ M9 ⟨rfl, h9⟩
      obtain ⟨r_107, e_r_107⟩ : ∃ x, x = rK T 40 r_105 := ⟨_, rfl⟩
      rw [← e_r_107] at h9
      rw [h9]
      have o_r_107 : rOk T r_107 := by rw [e_r_107]; exact o_r_105.K hT
      have i_r_107 := o_r_107.2
      have t_r_107 := o_r_107.1
      show Go (Ct (n + 6)) _ yX12_readBlock cX12_readBlock none 0 0 118 [some (.ref 317), some (.int (iI ((nst G : Nat) : Int))), some (.int (iI 1)), some (.int (iI ((gS G : Nat) : Int)))] [] (mM N106 r_107)
      refine r_aload0 (pc2 := 119) dX12_readBlock_118 rfl ?_
      refine r_iload1 (pc2 := 120) dX12_readBlock_119 rfl ?_
      refine r_iconst (pc2 := 121) dX12_readBlock_120 rfl ?_
      refine r_iadd (c := ((nst G + 1 : Nat) : Int)) (pc2 := 122) dX12_readBlock_121 rfl (by omega) ?_
      refine r_iconst (pc2 := 123) dX12_readBlock_122 rfl ?_
      obtain ⟨G1, eG1⟩ : ∃ x, x = gOpen (gLine G 11 ((kV T r_96.1 : Nat) : Int) (sV T r_100) (sV T r_102) 0) (gS G) := ⟨_, rfl⟩
      have hl : pst T (r, G) = (r_107, G1) := by
        rw [pst_11 k11, eG1]
        unfold lAgain
        dsimp only
        rw [hcn, ← e_r_96, ← e_r_98, ← e_r_100, ← e_r_102, ← e_r_105, ← e_r_107]
      have hx1 : rSt T (r_107, G1) := by rw [← hl]; exact (hx.s hT z_r).1
      have eN : nst G1 = nst G + 1 := by rw [eG1]; exact nst_opn hg (by decide)
      have eDD : gD G1 = gD G + 1 := by rw [eG1]; rfl
      have hMG : r_107.2 = 0 → MG N106 G1 := fun q => by
        have f_r_107 := rK_0 (k := 40) hT o_r_105 (by omega) (by rw [← e_r_107]; exact q)
        have f_r_105 := rS_0 hT o_r_102 (by rw [← e_r_105]; exact f_r_107.1)
        have v_z_104 := hv_z_104 (by rw [← e_r_105]; exact f_r_107.1)
        have f_r_102 := rS_0 hT o_r_100 (by rw [← e_r_102]; exact f_r_105.1)
        have v_z_101 := hv_z_101 (by rw [← e_r_102]; exact f_r_105.1)
        have f_r_100 := rK_0 (k := 17) hT o_r_98 (by omega) (by rw [← e_r_100]; exact f_r_102.1)
        have f_r_98 := rN_0 (lo := 1) (hi := 12) hT o_r_96 (by rw [← e_r_98]; exact f_r_100.1)
        have v_z_97 := hv_z_97 (by rw [← e_r_98]; exact f_r_100.1)
        have f_r_96 : r.2 = 0 := z_r
        have hgl : MG N106 (gLine G 11 ((kV T r_96.1 : Nat) : Int) (sV T r_100) (sV T r_102) 0) := by
          refine hG.line (a := 11) (by rw [h_N106, h_N103, h_N99, h_N95]; rfl) (by rw [h_N106, h_N103, h_N99, h_N95]; rfl) (by rw [h_N106, h_N103, h_N99, h_N95]; rfl) (by rw [h_N106, h_N103, h_N99, h_N95]; rfl) (fun j hj => ?_) (by rw [h_N106, h_N103, h_N99, h_N95]; rfl) (by rw [h_N106, h_N103, h_N99, h_N95]; rfl) ?_
          · rw [h_N106, h_N103, h_N99, h_N95]
            show (va_up (va_up (va_up (va_up (va_up (va_up (va_up (va_up (M.2.1 324) (5 * gS G) 0) (5 * gS G + 1) 0) (5 * gS G + 2) 0) (5 * gS G + 3) 0) (5 * gS G + 4) 0) (5 * gS G) z_97) (5 * gS G + 1) z_101) (5 * gS G + 2) z_104) j = M.2.1 324 j
            repeat (first | rw [up_at] | rw [up_ne (by omega)])
          · unfold mArg
            rw [show gA (gLine G 11 ((kV T r_96.1 : Nat) : Int) (sV T r_100) (sV T r_102) 0) (gS G) = 11 from up_at, show g1 (gLine G 11 ((kV T r_96.1 : Nat) : Int) (sV T r_100) (sV T r_102) 0) (gS G) = _ from up_at, show g2 (gLine G 11 ((kV T r_96.1 : Nat) : Int) (sV T r_100) (sV T r_102) 0) (gS G) = _ from up_at, show g3 (gLine G 11 ((kV T r_96.1 : Nat) : Int) (sV T r_100) (sV T r_102) 0) (gS G) = _ from up_at, show g4 (gLine G 11 ((kV T r_96.1 : Nat) : Int) (sV T r_100) (sV T r_102) 0) (gS G) = _ from up_at]
            refine ⟨fun _ _ => ?_, fun c => absurd c (by decide), fun _ => ⟨?_, ?_⟩, fun c => absurd c (by decide), fun c => absurd c (by decide)⟩
            · rw [h_N106, h_N103, h_N99, h_N95]
              show (va_up (va_up (va_up (va_up (va_up (va_up (va_up (va_up (M.2.1 324) (5 * gS G) 0) (5 * gS G + 1) 0) (5 * gS G + 2) 0) (5 * gS G + 3) 0) (5 * gS G + 4) 0) (5 * gS G) z_97) (5 * gS G + 1) z_101) (5 * gS G + 2) z_104) (5 * gS G) = _
              repeat (first | rw [up_at] | rw [up_ne (by omega)])
              exact v_z_97
            · rw [h_N106, h_N103, h_N99, h_N95]
              show (va_up (va_up (va_up (va_up (va_up (va_up (va_up (va_up (M.2.1 324) (5 * gS G) 0) (5 * gS G + 1) 0) (5 * gS G + 2) 0) (5 * gS G + 3) 0) (5 * gS G + 4) 0) (5 * gS G) z_97) (5 * gS G + 1) z_101) (5 * gS G + 2) z_104) (5 * gS G + 1) = _
              repeat (first | rw [up_at] | rw [up_ne (by omega)])
              exact v_z_101
            · rw [h_N106, h_N103, h_N99, h_N95]
              show (va_up (va_up (va_up (va_up (va_up (va_up (va_up (va_up (M.2.1 324) (5 * gS G) 0) (5 * gS G + 1) 0) (5 * gS G + 2) 0) (5 * gS G + 3) 0) (5 * gS G + 4) 0) (5 * gS G) z_97) (5 * gS G + 1) z_101) (5 * gS G + 2) z_104) (5 * gS G + 2) = _
              repeat (first | rw [up_at] | rw [up_ne (by omega)])
              exact v_z_104
        rw [eG1]; exact hgl
      have hcall : Ct (n + 6) 0 0 yX12_readLines [.ref 317, .int (iI ((nst G + 1 : Nat) : Int)), .int (iI 0)] (mM N106 r_107) (fun v M2 => v = none ∧ RLq T N106 M2 (r_107, G1)) := by
        by_cases hz : r_107.2 = 0
        · have h9 := hI N106 T r_107 G1 ⟨hS_N106, hT, hC_N106, hW_N106, hx1, hz, hMG hz⟩ (by omega)
          rw [eN, if_neg (by omega)] at h9
          exact h9
        · exact Ct_mono (fun v M2 q => ⟨q.1, 0, (r_107, G1), N106, rfl, q.2, frP.rf, fun q2 => absurd q2 hz⟩) (c_X12_readLinesF (d := n) hS_N106 hT hC_N106 hW_N106 o_r_107 hz (Or.inl rfl))
      refine r_cv2 (pc2 := 126) dX12_readBlock_123 rfl vX12_239 (hK_317 hS_N106) (by decide) hcall ?_
      rintro _ M9 ⟨rfl, j, y, Mz, s1, s2, s3, s4⟩
      rw [s2]
      obtain ⟨ry, Gy⟩ := y
      have hSz : sOk Mz.1 := s3.1.ok hS_N106
      have hCz : mT Mz T := hC_N106.fp s3
      have s5 := stn_st hT hx1 s1
      have o_ry : rOk T ry := s5.1.1
      have i_ry := o_ry.2
      have t_ry := o_ry.1
      show Go (Ct (n + 6)) _ yX12_readBlock cX12_readBlock none 0 0 126 [some (.ref 317), some (.int (iI ((nst G : Nat) : Int))), some (.int (iI 1)), some (.int (iI ((gS G : Nat) : Int)))] [] (mM Mz ry)
      refine r_aload0 (pc2 := 127) dX12_readBlock_126 rfl ?_
      refine r_bipush (pc2 := 129) dX12_readBlock_127 rfl (by decide) (by decide) ?_
      refine r_cv1 (pc2 := 132) dX12_readBlock_129 rfl vX12_226 (hK_317 hSz) (by decide) (c_X12_takeSign (d := n + 4) (M := Mz) (r := ry) (c := 41) hSz hT hCz o_ry (by omega)) ?_
      rintro _ M8 ⟨rfl, h8⟩
      rw [h8]
      show Go (Ct (n + 6)) _ yX12_readBlock cX12_readBlock none 0 0 132 [some (.ref 317), some (.int (iI ((nst G : Nat) : Int))), some (.int (iI 1)), some (.int (iI ((gS G : Nat) : Int)))] [] (mM Mz (rK T 41 ry))
      refine r_aload0 (pc2 := 133) dX12_readBlock_132 rfl ?_
      refine r_getR (pc2 := 136) dX12_readBlock_133 rfl fX12_77 (hK_317 hSz) (hR_317_13 hSz) ?_
      refine r_iload3 (pc2 := 137) dX12_readBlock_136 rfl ?_
      refine r_aload0 (pc2 := 138) dX12_readBlock_137 rfl ?_
      refine r_getI (z := ((mM Mz (rK T 41 ry)).2.1 317 10)) (pc2 := 141) dX12_readBlock_138 rfl (Or.inl fX12_198) (hK_317 hSz) rfl ?_
      refine r_iast (z := ((mM Mz (rK T 41 ry)).2.1 317 10)) (pc2 := 142) dX12_readBlock_141 rfl (hK_325 hSz) (by decide) (gS G) rfl (by omega) ?_
      refine r_ret dX12_readBlock_142 rfl ?_
      rw [mM_o (by omega)]
      refine ⟨rfl, ?_⟩
      have hst1 : stn T (j + 1) (r, G) (ry, Gy) := ⟨nrd z_r (Or.inl (by show ¬ kK T r.1 = 22; omega)), by rw [hl]; exact s1⟩
      by_cases hz : ry.2 = 0
      · obtain ⟨t1, t2, t3⟩ := s4 hz
        have t2 : sst G1 Gy := t2
        rw [eG1] at t2
        have t4 := sst_cls (by decide) t2
        have hDy : 0 < gD Gy := by have := t4.2.2.2; omega
        have t5 := pst_cl (T := T) (r := ry) (G := Gy) o_ry hz hDy t3
        refine ⟨j + 1, pst T (ry, Gy), _, _, stn_tr hst1 (show stn T 1 (ry, Gy) (pst T (ry, Gy)) from ⟨nrd hz (Or.inr hDy), rfl⟩), rfl, (((((p_N95).tr p_N99).tr p_N103).tr p_N106)).tr (s3.tr (frP.rf.I (Or.inl (by decide)))), o_ry.K hT, t5.1.symm, fun q => ?_, fun q => ?_⟩
        · rw [t5.2 q]
          have e9 : Mz.2.1 317 10 = ((gS Gy : Nat) : Int) := t1.1
          have h9 := t1.cls t4.2.2.1
          rw [t4.2.1] at h9
          show MG (pI Mz 325 (gS G) (Mz.2.1 317 10)) (gClose Gy)
          rw [e9]; exact h9
        · have q2 : (rK T 41 ry).2 = 0 := Classical.byContradiction (fun c => by rw [t5.1, rK_n c] at q; exact c q)
          rw [t5.2 q2]; exact t4.1
      · refine ⟨j, (ry, Gy), _, _, hst1, rfl, (((((p_N95).tr p_N99).tr p_N103).tr p_N106)).tr (s3.tr (frP.rf.I (Or.inl (by decide)))), o_ry.K hT, ?_, fun q => absurd q (by rw [rK_n hz]; exact hz), fun q => absurd q hz⟩
        rw [rK_n hz, rK_n hz]
    · have k12 : kK T r.1 = 12 := by have : ¬ kK T r.1 = 11 := fun e9 => hq ⟨z_r, e9⟩; omega
      rw [h9]
      show Go (Ct (n + 6)) _ yX12_readBlock cX12_readBlock none 0 0 16 [some (.ref 317), some (.int (iI ((nst G : Nat) : Int))), none, none] [.int (iI 0)] (mM M r)
      refine r_istore2 (pc2 := 17) dX12_readBlock_16 rfl rfl ?_
      refine r_aload0 (pc2 := 18) dX12_readBlock_17 rfl ?_
      refine r_iload2 (pc2 := 19) dX12_readBlock_18 rfl ?_
      refine r_ifeq (tgt := 26) (pc2 := 22) dX12_readBlock_19 rfl (by decide) ⟨by omega, by omega⟩ (fun _ => ?_) (fun h9 => absurd h9 (by decide))
      refine r_iconst (pc2 := 27) dX12_readBlock_26 rfl ?_
      refine r_cv1 (pc2 := 30) dX12_readBlock_27 rfl vX12_229 (hK_317 hS) (by decide) (c_X12_emit (d := n + 5) (M := mM M r) (i := gS G) (c := 2) hS hG.1 h125) ?_
      rintro _ M9 ⟨rfl, h9⟩
      rw [eM_m] at h9
      rw [h9]
      obtain ⟨N108, h_N108⟩ : ∃ x, x = eM M (gS G) 2 := ⟨_, rfl⟩
      rw [← h_N108]
      have p_N108 : frP M N108 := by rw [h_N108]; exact frP.rf.e
      have hS_N108 : sOk N108.1 := p_N108.1.ok hS
      have hC_N108 : mT N108 T := hC.fp p_N108
      have hW_N108 : mWd N108 := hW.fp p_N108
      show Go (Ct (n + 6)) _ yX12_readBlock cX12_readBlock none 0 0 30 [some (.ref 317), some (.int (iI ((nst G : Nat) : Int))), some (.int (iI 0)), none] [.int (iI ((gS G : Nat) : Int))] (mM N108 r)
      refine r_istore3 (pc2 := 31) dX12_readBlock_30 rfl rfl ?_
      refine r_aload0 (pc2 := 32) dX12_readBlock_31 rfl ?_
      refine r_dup (pc2 := 33) dX12_readBlock_32 rfl rfl ?_
      refine r_getI (z := ((r.1 : Nat) : Int)) (pc2 := 36) dX12_readBlock_33 rfl (Or.inl fX12_179) (hK_317 hS_N108) mM_t ?_
      refine r_iconst (pc2 := 37) dX12_readBlock_36 rfl ?_
      refine r_iadd (c := (((r.1 + 1) : Nat) : Int)) (pc2 := 38) dX12_readBlock_37 rfl (by omega) ?_
      refine r_putI (z := (((r.1 + 1) : Nat) : Int)) (pc2 := 41) dX12_readBlock_38 rfl fX12_179 (w12_7 _) (hK_317 hS_N108) (by decide) ?_
      refine r_iload2 (pc2 := 42) dX12_readBlock_41 rfl ?_
      refine r_ifeq (tgt := 97) (pc2 := 45) dX12_readBlock_42 rfl (by decide) ⟨by omega, by omega⟩ (fun _ => ?_) (fun h9 => absurd h9 (by decide))
      refine r_aload0 (pc2 := 98) dX12_readBlock_97 rfl ?_
      refine r_getR (pc2 := 101) dX12_readBlock_98 rfl fX12_74 (hK_317 hS_N108) (hR_317_12 hS_N108) ?_
      refine r_iconst (pc2 := 102) dX12_readBlock_101 rfl ?_
      refine r_iload3 (pc2 := 103) dX12_readBlock_102 rfl ?_
      refine r_imul (c := ((5 * gS G : Nat) : Int)) (pc2 := 104) dX12_readBlock_103 rfl (by omega) ?_
      refine r_aload0 (pc2 := 105) dX12_readBlock_104 rfl ?_
      refine r_iconst (pc2 := 106) dX12_readBlock_105 rfl ?_
      refine r_bipush (pc2 := 108) dX12_readBlock_106 rfl (by decide) (by decide) ?_
      rw [mM_a]
      obtain ⟨r_109, e_r_109⟩ : ∃ x, x = av T r := ⟨_, rfl⟩
      have q_r_109 : r_109 = (r.1 + 1, 0) := by rw [e_r_109, av_y z_r l_r]
      rw [show ((r.1 + 1, r.2) : rdT) = r_109 from by rw [q_r_109, z_r]]
      have o_r_109 : rOk T r_109 := by rw [e_r_109]; exact o_r.a
      have z_r_109 : r_109.2 = 0 := by rw [q_r_109]
      have i_r_109 := o_r_109.2
      have t_r_109 := o_r_109.1
      refine r_cv2 (pc2 := 111) dX12_readBlock_108 rfl vX12_204 (hK_317 hS_N108) (Nat.le_of_ble_eq_true rfl) (c_X12_takeNumber (d := n + 4) (M := N108) (r := r_109) (lo := 0) (hi := 12) hS_N108 hT hC_N108 o_r_109 ⟨by omega, by omega⟩ ⟨by omega, by omega⟩) ?_
      rintro _ M9 ⟨z_110, hz_z_110, rfl, h9, hv_z_110⟩
      obtain ⟨z_1101, z_1102⟩ := hz_z_110
      obtain ⟨r_111, e_r_111⟩ : ∃ x, x = rN T 0 12 r_109 := ⟨_, rfl⟩
      rw [← e_r_111] at h9
      rw [h9]
      have o_r_111 : rOk T r_111 := by rw [e_r_111]; exact o_r_109.N hT
      have i_r_111 := o_r_111.2
      have t_r_111 := o_r_111.1
      show Go (Ct (n + 6)) _ yX12_readBlock cX12_readBlock none 0 0 111 [some (.ref 317), some (.int (iI ((nst G : Nat) : Int))), some (.int (iI 0)), some (.int (iI ((gS G : Nat) : Int)))] [.int (iI z_110), .int (iI ((5 * gS G : Nat) : Int)), .ref 324] (mM N108 r_111)
      refine r_iast (z := z_110) (pc2 := 112) dX12_readBlock_111 rfl (hK_324 hS_N108) (by decide) (5 * gS G) rfl (by omega) ?_
      refine r_aload0 (pc2 := 113) dX12_readBlock_112 rfl ?_
      refine r_bipush (pc2 := 115) dX12_readBlock_113 rfl (by decide) (by decide) ?_
      rw [mM_o (by omega)]
      obtain ⟨N112, h_N112⟩ : ∃ x, x = pI N108 324 (5 * gS G) z_110 := ⟨_, rfl⟩
      rw [← h_N112]
      have p_N112 : frP N108 N112 := by rw [h_N112]; exact frP.rf.I (Or.inl (by decide))
      have hS_N112 : sOk N112.1 := p_N112.1.ok hS_N108
      have hC_N112 : mT N112 T := hC_N108.fp p_N112
      have hW_N112 : mWd N112 := hW_N108.fp p_N112
      refine r_cv1 (pc2 := 118) dX12_readBlock_115 rfl vX12_226 (hK_317 hS_N112) (by decide) (c_X12_takeSign (d := n + 4) (M := N112) (r := r_111) (c := 40) hS_N112 hT hC_N112 o_r_111 (by omega)) ?_
      rintro _ M9 ⟨rfl, h9⟩
      obtain ⟨r_113, e_r_113⟩ : ∃ x, x = rK T 40 r_111 := ⟨_, rfl⟩
      rw [← e_r_113] at h9
      rw [h9]
      have o_r_113 : rOk T r_113 := by rw [e_r_113]; exact o_r_111.K hT
      have i_r_113 := o_r_113.2
      have t_r_113 := o_r_113.1
      show Go (Ct (n + 6)) _ yX12_readBlock cX12_readBlock none 0 0 118 [some (.ref 317), some (.int (iI ((nst G : Nat) : Int))), some (.int (iI 0)), some (.int (iI ((gS G : Nat) : Int)))] [] (mM N112 r_113)
      refine r_aload0 (pc2 := 119) dX12_readBlock_118 rfl ?_
      refine r_iload1 (pc2 := 120) dX12_readBlock_119 rfl ?_
      refine r_iconst (pc2 := 121) dX12_readBlock_120 rfl ?_
      refine r_iadd (c := ((nst G + 1 : Nat) : Int)) (pc2 := 122) dX12_readBlock_121 rfl (by omega) ?_
      refine r_iconst (pc2 := 123) dX12_readBlock_122 rfl ?_
      obtain ⟨G1, eG1⟩ : ∃ x, x = gOpen (gLine G 12 ((kV T r_109.1 : Nat) : Int) 0 0 0) (gS G) := ⟨_, rfl⟩
      have hl : pst T (r, G) = (r_113, G1) := by
        rw [pst_12 k12, eG1]
        unfold lMirror
        dsimp only
        rw [hcn, ← e_r_109, ← e_r_111, ← e_r_113]
      have hx1 : rSt T (r_113, G1) := by rw [← hl]; exact (hx.s hT z_r).1
      have eN : nst G1 = nst G + 1 := by rw [eG1]; exact nst_opn hg (by decide)
      have eDD : gD G1 = gD G + 1 := by rw [eG1]; rfl
      have hMG : r_113.2 = 0 → MG N112 G1 := fun q => by
        have f_r_113 := rK_0 (k := 40) hT o_r_111 (by omega) (by rw [← e_r_113]; exact q)
        have f_r_111 := rN_0 (lo := 0) (hi := 12) hT o_r_109 (by rw [← e_r_111]; exact f_r_113.1)
        have v_z_110 := hv_z_110 (by rw [← e_r_111]; exact f_r_113.1)
        have f_r_109 : r.2 = 0 := z_r
        have hgl : MG N112 (gLine G 12 ((kV T r_109.1 : Nat) : Int) 0 0 0) := by
          refine hG.line (a := 12) (by rw [h_N112, h_N108]; rfl) (by rw [h_N112, h_N108]; rfl) (by rw [h_N112, h_N108]; rfl) (by rw [h_N112, h_N108]; rfl) (fun j hj => ?_) (by rw [h_N112, h_N108]; rfl) (by rw [h_N112, h_N108]; rfl) ?_
          · rw [h_N112, h_N108]
            show (va_up (va_up (va_up (va_up (va_up (va_up (M.2.1 324) (5 * gS G) 0) (5 * gS G + 1) 0) (5 * gS G + 2) 0) (5 * gS G + 3) 0) (5 * gS G + 4) 0) (5 * gS G) z_110) j = M.2.1 324 j
            repeat (first | rw [up_at] | rw [up_ne (by omega)])
          · unfold mArg
            rw [show gA (gLine G 12 ((kV T r_109.1 : Nat) : Int) 0 0 0) (gS G) = 12 from up_at, show g1 (gLine G 12 ((kV T r_109.1 : Nat) : Int) 0 0 0) (gS G) = _ from up_at, show g2 (gLine G 12 ((kV T r_109.1 : Nat) : Int) 0 0 0) (gS G) = _ from up_at, show g3 (gLine G 12 ((kV T r_109.1 : Nat) : Int) 0 0 0) (gS G) = _ from up_at, show g4 (gLine G 12 ((kV T r_109.1 : Nat) : Int) 0 0 0) (gS G) = _ from up_at]
            refine ⟨fun _ _ => ?_, fun c => absurd c (by decide), fun c => absurd c (by decide), fun c => absurd c (by decide), fun c => absurd c (by decide)⟩
            · rw [h_N112, h_N108]
              show (va_up (va_up (va_up (va_up (va_up (va_up (M.2.1 324) (5 * gS G) 0) (5 * gS G + 1) 0) (5 * gS G + 2) 0) (5 * gS G + 3) 0) (5 * gS G + 4) 0) (5 * gS G) z_110) (5 * gS G) = _
              repeat (first | rw [up_at] | rw [up_ne (by omega)])
              exact v_z_110
        rw [eG1]; exact hgl
      have hcall : Ct (n + 6) 0 0 yX12_readLines [.ref 317, .int (iI ((nst G + 1 : Nat) : Int)), .int (iI 0)] (mM N112 r_113) (fun v M2 => v = none ∧ RLq T N112 M2 (r_113, G1)) := by
        by_cases hz : r_113.2 = 0
        · have h9 := hI N112 T r_113 G1 ⟨hS_N112, hT, hC_N112, hW_N112, hx1, hz, hMG hz⟩ (by omega)
          rw [eN, if_neg (by omega)] at h9
          exact h9
        · exact Ct_mono (fun v M2 q => ⟨q.1, 0, (r_113, G1), N112, rfl, q.2, frP.rf, fun q2 => absurd q2 hz⟩) (c_X12_readLinesF (d := n) hS_N112 hT hC_N112 hW_N112 o_r_113 hz (Or.inl rfl))
      refine r_cv2 (pc2 := 126) dX12_readBlock_123 rfl vX12_239 (hK_317 hS_N112) (by decide) hcall ?_
      rintro _ M9 ⟨rfl, j, y, Mz, s1, s2, s3, s4⟩
      rw [s2]
      obtain ⟨ry, Gy⟩ := y
      have hSz : sOk Mz.1 := s3.1.ok hS_N112
      have hCz : mT Mz T := hC_N112.fp s3
      have s5 := stn_st hT hx1 s1
      have o_ry : rOk T ry := s5.1.1
      have i_ry := o_ry.2
      have t_ry := o_ry.1
      show Go (Ct (n + 6)) _ yX12_readBlock cX12_readBlock none 0 0 126 [some (.ref 317), some (.int (iI ((nst G : Nat) : Int))), some (.int (iI 0)), some (.int (iI ((gS G : Nat) : Int)))] [] (mM Mz ry)
      refine r_aload0 (pc2 := 127) dX12_readBlock_126 rfl ?_
      refine r_bipush (pc2 := 129) dX12_readBlock_127 rfl (by decide) (by decide) ?_
      refine r_cv1 (pc2 := 132) dX12_readBlock_129 rfl vX12_226 (hK_317 hSz) (by decide) (c_X12_takeSign (d := n + 4) (M := Mz) (r := ry) (c := 41) hSz hT hCz o_ry (by omega)) ?_
      rintro _ M8 ⟨rfl, h8⟩
      rw [h8]
      show Go (Ct (n + 6)) _ yX12_readBlock cX12_readBlock none 0 0 132 [some (.ref 317), some (.int (iI ((nst G : Nat) : Int))), some (.int (iI 0)), some (.int (iI ((gS G : Nat) : Int)))] [] (mM Mz (rK T 41 ry))
      refine r_aload0 (pc2 := 133) dX12_readBlock_132 rfl ?_
      refine r_getR (pc2 := 136) dX12_readBlock_133 rfl fX12_77 (hK_317 hSz) (hR_317_13 hSz) ?_
      refine r_iload3 (pc2 := 137) dX12_readBlock_136 rfl ?_
      refine r_aload0 (pc2 := 138) dX12_readBlock_137 rfl ?_
      refine r_getI (z := ((mM Mz (rK T 41 ry)).2.1 317 10)) (pc2 := 141) dX12_readBlock_138 rfl (Or.inl fX12_198) (hK_317 hSz) rfl ?_
      refine r_iast (z := ((mM Mz (rK T 41 ry)).2.1 317 10)) (pc2 := 142) dX12_readBlock_141 rfl (hK_325 hSz) (by decide) (gS G) rfl (by omega) ?_
      refine r_ret dX12_readBlock_142 rfl ?_
      rw [mM_o (by omega)]
      refine ⟨rfl, ?_⟩
      have hst1 : stn T (j + 1) (r, G) (ry, Gy) := ⟨nrd z_r (Or.inl (by show ¬ kK T r.1 = 22; omega)), by rw [hl]; exact s1⟩
      by_cases hz : ry.2 = 0
      · obtain ⟨t1, t2, t3⟩ := s4 hz
        have t2 : sst G1 Gy := t2
        rw [eG1] at t2
        have t4 := sst_cls (by decide) t2
        have hDy : 0 < gD Gy := by have := t4.2.2.2; omega
        have t5 := pst_cl (T := T) (r := ry) (G := Gy) o_ry hz hDy t3
        refine ⟨j + 1, pst T (ry, Gy), _, _, stn_tr hst1 (show stn T 1 (ry, Gy) (pst T (ry, Gy)) from ⟨nrd hz (Or.inr hDy), rfl⟩), rfl, (((p_N108).tr p_N112)).tr (s3.tr (frP.rf.I (Or.inl (by decide)))), o_ry.K hT, t5.1.symm, fun q => ?_, fun q => ?_⟩
        · rw [t5.2 q]
          have e9 : Mz.2.1 317 10 = ((gS Gy : Nat) : Int) := t1.1
          have h9 := t1.cls t4.2.2.1
          rw [t4.2.1] at h9
          show MG (pI Mz 325 (gS G) (Mz.2.1 317 10)) (gClose Gy)
          rw [e9]; exact h9
        · have q2 : (rK T 41 ry).2 = 0 := Classical.byContradiction (fun c => by rw [t5.1, rK_n c] at q; exact c q)
          rw [t5.2 q2]; exact t4.1
      · refine ⟨j, (ry, Gy), _, _, hst1, rfl, (((p_N108).tr p_N112)).tr (s3.tr (frP.rf.I (Or.inl (by decide)))), o_ry.K hT, ?_, fun q => absurd q (by rw [rK_n hz]; exact hz), fun q => absurd q hz⟩
        rw [rK_n hz, rK_n hz]
  · exact absurd b_2 (by omega)
theorem blk0 {n : Nat} : BLp n 0 := by
  intro M T r G hM he hk
  obtain ⟨⟨u, ns, hP⟩, hp⟩ := hM.2.2.2.2.1.2 hM.2.2.2.2.2.1
  have hP : PV G u ns := hP
  have h1 := hP.1.2.2.1
  have h2 := nst_le (G := G)
  exact c_X12_readBlock4 hM (by omega) hk
