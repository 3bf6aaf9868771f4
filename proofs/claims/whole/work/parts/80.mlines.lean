/-! the model's program is G -/
def mArg (M : pM) (G : gPr) (i : Nat) : Prop := (¬ gA G i = 13 → ¬ gA G i = 14 → M.2.1 324 (5 * i) = g1 G i) ∧ (gA G i = 14 → ∃ k, k < gT G ∧ M.2.1 324 (5 * i) = ((k : Nat) : Int) ∧ ((gL G k : Nat) : Int) = g1 G i) ∧ (gA G i = 10 ∨ gA G i = 11 ∨ gA G i = 14 ∨ gA G i = 16 → M.2.1 324 (5 * i + 1) = g2 G i ∧ M.2.1 324 (5 * i + 2) = g3 G i) ∧ (gA G i = 15 → M.2.1 324 (5 * i + 1) = (if g2 G i = -1 then 4 else g2 G i)) ∧ (gA G i = 10 ∨ gA G i = 16 → M.2.1 324 (5 * i + 3) = g4 G i)
def MG (M : pM) (G : gPr) : Prop := M.2.1 317 10 = ((gS G : Nat) : Int) ∧ M.2.1 317 14 = ((gT G : Nat) : Int) ∧ (∀ i, i < gS G → M.2.1 323 i = gA G i - 10 ∧ M.2.1 325 i = gE G i ∧ mArg M G i) ∧ ∀ k, k < gT G → M.2.2 326 k = lN (m37 8 (gN G k)) ∧ M.2.1 327 k = ((gL G k : Nat) : Int)
def frP (M M2 : pM) : Prop := fr [317, 323, 324, 325, 326, 327] M M2 ∧ ∀ k, k ∉ [7, 8, 10, 14] → M2.2.1 317 k = M.2.1 317 k
theorem frP.rf {M : pM} : frP M M := ⟨fr.rf, fun _ _ => rfl⟩
theorem frP.tr {M M1 M2 : pM} (h : frP M M1) (h2 : frP M1 M2) : frP M M2 := ⟨h.1.tr h2.1, fun k hk => (h2.2 k hk).trans (h.2 k hk)⟩
theorem frP.m {M M2 : pM} {r : rdT} (h : frP M M2) : frP M (mM M2 r) := ⟨(h.1.I (by decide)).I (by decide), fun k hk => by
  rw [← h.2 k hk]
  unfold mM
  rw [pI_nk (by rintro rfl; exact hk (by decide)), pI_nk (by rintro rfl; exact hk (by decide))]⟩
theorem frP.I {M M2 : pM} {a k : Nat} {z : Int} (h : frP M M2) (ha : a ∈ [323, 324, 325, 326, 327] ∨ a = 317 ∧ (k = 10 ∨ k = 14)) : frP M (pI M2 a k z) := by
  refine ⟨h.1.I ?_, fun j hj => ?_⟩
  · rcases ha with ha | ⟨rfl, -⟩
    · revert ha; simp only [List.mem_cons, List.not_mem_nil, or_false]; omega
    · decide
  · rw [← h.2 j hj]
    rcases ha with ha | ⟨rfl, ha⟩
    · rw [pI_ne (by revert ha; simp only [List.mem_cons, List.not_mem_nil, or_false]; omega)]
    · rw [pI_nk (by rintro rfl; revert hj; rcases ha with rfl | rfl <;> decide)]
theorem frP.e {M M2 : pM} {i : Nat} {c : Int} (h : frP M M2) : frP M (eM M2 i c) := by
  unfold eM
  exact (((((((h.I (Or.inl (by decide))).I (Or.inl (by decide))).I (Or.inl (by decide))).I (Or.inl (by decide))).I (Or.inl (by decide))).I (Or.inl (by decide))).I (Or.inl (by decide))).I (Or.inr ⟨rfl, by decide⟩)
theorem mT.fp {M M2 : pM} {T : tD} (h : mT M T) (hf : frP M M2) : mT M2 T := ⟨fun i hi => by rw [hf.1.i (by decide), hf.1.i (by decide)]; exact h.1 i hi, fun i hi q => by rw [hf.1.j (by decide)]; exact h.2.1 i hi q, fun i hi q => by rw [hf.1.j (by decide)]; exact h.2.2.1 i hi q, fun i hi q => by rw [hf.1.j (by decide)]; exact h.2.2.2 i hi q⟩
theorem mWd.fp {M M2 : pM} (h : mWd M) (hf : frP M M2) : mWd M2 := fun w hw => by rw [hf.1.j (by decide)]; exact h w hw
theorem MG.line {M M2 : pM} {G : gPr} {a x y z w : Int} (h : MG M G) (e10 : M2.2.1 317 10 = (((gS G + 1 : Nat)) : Int)) (e14 : M2.2.1 317 14 = M.2.1 317 14) (e323 : M2.2.1 323 = va_up (M.2.1 323) (gS G) (a - 10)) (e325 : M2.2.1 325 = va_up (M.2.1 325) (gS G) (((gS G + 1 : Nat)) : Int)) (e324 : ∀ j, j < 5 * gS G → M2.2.1 324 j = M.2.1 324 j) (ej : M2.2.2 326 = M.2.2 326) (e327 : M2.2.1 327 = M.2.1 327) (hA : mArg M2 (gLine G a x y z w) (gS G)) : MG M2 (gLine G a x y z w) := by
  obtain ⟨h1, h2, h3, h4⟩ := h
  refine ⟨e10, e14.trans h2, fun i hi => ?_, fun k hk => by rw [ej, e327]; exact h4 k hk⟩
  have hi : i < gS G + 1 := hi
  by_cases e : i = gS G
  · subst e
    refine ⟨?_, ?_, hA⟩
    · rw [e323, up_at]; show _ = va_up (gA G) (gS G) a (gS G) - 10; rw [up_at]
    · rw [e325, up_at]; show _ = va_up (gE G) (gS G) _ (gS G); rw [up_at]
  · obtain ⟨l1, l2, l3⟩ := h3 i (by omega)
    refine ⟨?_, ?_, ?_⟩
    · rw [e323, up_ne e]; show _ = va_up (gA G) (gS G) a i - 10; rw [up_ne e]; exact l1
    · rw [e325, up_ne e]; show _ = va_up (gE G) (gS G) _ i; rw [up_ne e]; exact l2
    · unfold mArg
      rw [show gA (gLine G a x y z w) i = gA G i from up_ne e, show g1 (gLine G a x y z w) i = g1 G i from up_ne e, show g2 (gLine G a x y z w) i = g2 G i from up_ne e, show g3 (gLine G a x y z w) i = g3 G i from up_ne e, show g4 (gLine G a x y z w) i = g4 G i from up_ne e, e324 _ (by omega), e324 _ (by omega), e324 _ (by omega), e324 _ (by omega)]
      exact l3
/-- what a LINE's method leaves ahead of its semicolon; x the state behind it -/
def mPo (T : tD) (M M2 : pM) (x : pS2) : Prop := ∃ M3 r5, M2 = mM M3 r5 ∧ frP M M3 ∧ rOk T r5 ∧ rK T 59 r5 = x.1 ∧ (r5.2 = 0 → MG M3 x.2)

def pcz (k q : Int) : Int := if 1 ≤ q ∧ q ≤ 9 ∧ q < k - 7 then q else 0
set_option maxHeartbeats 4000000 in
theorem lp_X12_readPut {d : Nat} {Q : pQ} {M : pM} {T : tD} {r : rdT} {i1 : Int} (hS : sOk M.1) (hT : tOk T) (hC : mT M T) (hW : mWd M) (o_r : rOk T r) (z_r : r.2 = 0)
    (hQ : Go (Ct (d + 2)) Q yX12_readPut cX12_readPut none 0 0 52 [some (.ref 317), some (.int (iI i1)), some (.int (iI (if 1 ≤ kK T r.1 ∧ kK T r.1 ≤ 9 then kK T r.1 else 0))), some (.int (iI 17))] [] (mM M r)) :
    ∀ (m k : Nat), 8 ≤ k → k + m = 17 → Go (Ct (d + 2)) Q yX12_readPut cX12_readPut none 0 0 21 [some (.ref 317), some (.int (iI i1)), some (.int (iI (pcz k (kK T r.1)))), some (.int (iI ((k : Nat) : Int)))] [] (mM M r) := by
  intro m
  induction m with
  | zero =>
    intro k h8 hm
    obtain rfl : k = 17 := by omega
    have e9 : pcz ((17 : Nat) : Int) (kK T r.1) = (if 1 ≤ kK T r.1 ∧ kK T r.1 ≤ 9 then kK T r.1 else 0) := by unfold pcz; (repeat' split) <;> omega
    rw [e9]
    refine r_iload3 (pc2 := 22) dX12_readPut_21 rfl ?_
    refine r_bipush (pc2 := 24) dX12_readPut_22 rfl (by decide) (by decide) ?_
    refine r_icge (tgt := 52) (pc2 := 27) dX12_readPut_24 rfl (by decide) ⟨by omega, by omega⟩ ⟨by omega, by omega⟩ (fun _ => ?_) (fun h9 => absurd h9 (by decide))
    exact hQ
  | succ m ih =>
    intro k h8 hm
    have ih2 := ih (k + 1) (by omega) (by omega)
    refine r_iload3 (pc2 := 22) dX12_readPut_21 rfl ?_
    refine r_bipush (pc2 := 24) dX12_readPut_22 rfl (by decide) (by decide) ?_
    refine r_icge (tgt := 52) (pc2 := 27) dX12_readPut_24 rfl (by decide) ⟨by omega, by omega⟩ ⟨by omega, by omega⟩ (fun b_24 => ?_) (fun b_24 => ?_)
    · exact absurd b_24 (by omega)
    · refine r_aload0 (pc2 := 28) dX12_readPut_27 rfl ?_
      refine r_iload3 (pc2 := 29) dX12_readPut_28 rfl ?_
      refine r_cv1 (pc2 := 32) dX12_readPut_29 rfl vX12_192 (hK_317 hS) (by decide) (c_X12_isWord (d := d + 1) (M := M) (r := r) (w := k) hS hT hC o_r hW (by omega)) ?_
      rintro _ M9 ⟨h9, ⟨hq, rfl⟩ | ⟨hq, rfl⟩⟩
      · rw [h9]
        show Go (Ct (d + 2)) _ yX12_readPut cX12_readPut none 0 0 32 [some (.ref 317), some (.int (iI i1)), some (.int (iI (pcz k (kK T r.1)))), some (.int (iI ((k : Nat) : Int)))] [.int (iI 1)] (mM M r)
        refine r_ifeq (tgt := 44) (pc2 := 35) dX12_readPut_32 rfl (by decide) ⟨by omega, by omega⟩ (fun h9 => absurd h9 (by decide)) (fun _ => ?_)
        refine r_iload3 (pc2 := 36) dX12_readPut_35 rfl ?_
        refine r_bipush (pc2 := 38) dX12_readPut_36 rfl (by decide) (by decide) ?_
        refine r_isub (c := (((k : Nat) : Int) - 8)) (pc2 := 39) dX12_readPut_38 rfl rfl ?_
        refine r_iconst (pc2 := 40) dX12_readPut_39 rfl ?_
        refine r_iadd (c := ((((k : Nat) : Int) - 8) + 1)) (pc2 := 41) dX12_readPut_40 rfl rfl ?_
        refine r_goto (tgt := 45) dX12_readPut_41 (by decide) ?_
        refine r_istore2 (pc2 := 46) dX12_readPut_45 rfl rfl ?_
        refine r_iinc3 (z := ((k + 1 : Nat) : Int)) (pc2 := 49) dX12_readPut_46 rfl (by omega) rfl ?_
        refine r_goto (tgt := 21) dX12_readPut_49 (by decide) ?_
        have ep : ((pw k : Nat) : Int) = (k : Int) - 7 := by unfold pw; rw [if_neg (by omega)]; omega
        have e9 : pcz ((k + 1 : Nat) : Int) (kK T r.1) = (k : Int) - 8 + 1 := by unfold pcz; rw [if_pos (by omega)]; omega
        rw [e9] at ih2
        exact ih2
      · rw [h9]
        show Go (Ct (d + 2)) _ yX12_readPut cX12_readPut none 0 0 32 [some (.ref 317), some (.int (iI i1)), some (.int (iI (pcz k (kK T r.1)))), some (.int (iI ((k : Nat) : Int)))] [.int (iI 0)] (mM M r)
        refine r_ifeq (tgt := 44) (pc2 := 35) dX12_readPut_32 rfl (by decide) ⟨by omega, by omega⟩ (fun _ => ?_) (fun h9 => absurd h9 (by decide))
        refine r_iload2 (pc2 := 45) dX12_readPut_44 rfl ?_
        refine r_istore2 (pc2 := 46) dX12_readPut_45 rfl rfl ?_
        refine r_iinc3 (z := ((k + 1 : Nat) : Int)) (pc2 := 49) dX12_readPut_46 rfl (by omega) rfl ?_
        refine r_goto (tgt := 21) dX12_readPut_49 (by decide) ?_
        have ep : ((pw k : Nat) : Int) = (k : Int) - 7 := by unfold pw; rw [if_neg (by omega)]; omega
        have hne : ¬ kK T r.1 = (k : Int) - 7 := fun e => hq ⟨z_r, by omega⟩
        have e9 : pcz ((k + 1 : Nat) : Int) (kK T r.1) = pcz k (kK T r.1) := by unfold pcz; (repeat' split) <;> omega
        rw [e9] at ih2
        exact ih2
set_option maxHeartbeats 8000000 in
theorem c_X12_readPut {d : Nat} {M : pM} {T : tD} {r : rdT} {G : gPr} {u ns : Nat → Nat} (hS : sOk M.1) (hT : tOk T) (hC : mT M T) (hW : mWd M) (o_r : rOk T r) (z_r : r.2 = 0) (hG : MG M G) (hP : PV G u ns) (h125 : gS G < 125) (hk : kK T r.1 = 10) : Ct (d + 4) 0 0 yX12_readPut [.ref 317] (mM M r) (fun v M2 => v = none ∧ mPo T M M2 (lPut T r G)) := by
  refine ct_in (d := (d + 3)) kX12_readPut rfl (by decide) (Nat.le_of_ble_eq_true rfl) (by decide) ?_
  show Go (Ct (d + 3)) _ yX12_readPut cX12_readPut none 0 0 0 [some (.ref 317), none, none, none] [] (mM M r)
  have hT1 := hT.1
  have i_r := o_r.2
  have t_r := o_r.1
  have hg := hP.ok
  have hg2 := hg.2.1
  have l_r := K_lt hT o_r.1 (by omega)
  refine r_aload0 (pc2 := 1) dX12_readPut_0 rfl ?_
  refine r_iconst (pc2 := 2) dX12_readPut_1 rfl ?_
  refine r_cv1 (pc2 := 5) dX12_readPut_2 rfl vX12_229 (hK_317 hS) (by decide) (c_X12_emit (d := d + 2) (M := mM M r) (i := gS G) (c := 0) hS hG.1 h125) ?_
  rintro _ M9 ⟨rfl, h9⟩
  rw [eM_m] at h9
  rw [h9]
  obtain ⟨N1, h_N1⟩ : ∃ x, x = eM M (gS G) 0 := ⟨_, rfl⟩
  rw [← h_N1]
  have p_N1 : frP M N1 := by rw [h_N1]; exact frP.rf.e
  have hS_N1 : sOk N1.1 := p_N1.1.ok hS
  have hC_N1 : mT N1 T := hC.fp p_N1
  have hW_N1 : mWd N1 := hW.fp p_N1
  show Go (Ct (d + 3)) _ yX12_readPut cX12_readPut none 0 0 5 [some (.ref 317), none, none, none] [.int (iI ((gS G : Nat) : Int))] (mM N1 r)
  refine r_istore1 (pc2 := 6) dX12_readPut_5 rfl rfl ?_
  refine r_aload0 (pc2 := 7) dX12_readPut_6 rfl ?_
  refine r_dup (pc2 := 8) dX12_readPut_7 rfl rfl ?_
  refine r_getI (z := ((r.1 : Nat) : Int)) (pc2 := 11) dX12_readPut_8 rfl (Or.inl fX12_179) (hK_317 hS_N1) mM_t ?_
  refine r_iconst (pc2 := 12) dX12_readPut_11 rfl ?_
  refine r_iadd (c := (((r.1 + 1) : Nat) : Int)) (pc2 := 13) dX12_readPut_12 rfl (by omega) ?_
  refine r_putI (z := (((r.1 + 1) : Nat) : Int)) (pc2 := 16) dX12_readPut_13 rfl fX12_179 (w12_7 _) (hK_317 hS_N1) (by decide) ?_
  refine r_iconst (pc2 := 17) dX12_readPut_16 rfl ?_
  refine r_istore2 (pc2 := 18) dX12_readPut_17 rfl rfl ?_
  refine r_bipush (pc2 := 20) dX12_readPut_18 rfl (by decide) (by decide) ?_
  refine r_istore3 (pc2 := 21) dX12_readPut_20 rfl rfl ?_
  rw [mM_a]
  obtain ⟨r_2, e_r_2⟩ : ∃ x, x = av T r := ⟨_, rfl⟩
  have q_r_2 : r_2 = (r.1 + 1, 0) := by rw [e_r_2, av_y z_r l_r]
  rw [show ((r.1 + 1, r.2) : rdT) = r_2 from by rw [q_r_2, z_r]]
  have o_r_2 : rOk T r_2 := by rw [e_r_2]; exact o_r.a
  have z_r_2 : r_2.2 = 0 := by rw [q_r_2]
  have i_r_2 := o_r_2.2
  have t_r_2 := o_r_2.1
  have kr := kK_r hT o_r_2.1
  have l_r_2x : 1 ≤ kK T r_2.1 ∧ kK T r_2.1 ≤ 9 → r_2.1 < T.1 := fun c => K_lt hT o_r_2.1 (by omega)
  have h0 := lp_X12_readPut (d := d + 1) (Q := fun v M2 => v = none ∧ mPo T M M2 (lPut T r G)) (i1 := ((gS G : Nat) : Int)) (M := N1) (r := r_2) hS_N1 hT hC_N1 hW_N1 o_r_2 z_r_2 ?_ 9 8 (by omega) (by omega)
  · rw [show pcz ((8 : Nat) : Int) (kK T r_2.1) = 0 from by unfold pcz; rw [if_neg (by omega)]] at h0
    exact h0
  by_cases c_rg : 1 ≤ kK T r_2.1 ∧ kK T r_2.1 ≤ 9
  · rw [if_pos c_rg]
    have l_r_2 := l_r_2x c_rg
    refine r_iload2 (pc2 := 53) dX12_readPut_52 rfl ?_
    refine r_ifne (tgt := 62) (pc2 := 56) dX12_readPut_53 rfl (by decide) ⟨by omega, by omega⟩ (fun b_53 => ?_) (fun b_53 => ?_)
    · refine r_aload0 (pc2 := 63) dX12_readPut_62 rfl ?_
      refine r_dup (pc2 := 64) dX12_readPut_63 rfl rfl ?_
      refine r_getI (z := ((r_2.1 : Nat) : Int)) (pc2 := 67) dX12_readPut_64 rfl (Or.inl fX12_179) (hK_317 hS_N1) mM_t ?_
      refine r_iconst (pc2 := 68) dX12_readPut_67 rfl ?_
      refine r_iadd (c := (((r_2.1 + 1) : Nat) : Int)) (pc2 := 69) dX12_readPut_68 rfl (by omega) ?_
      refine r_putI (z := (((r_2.1 + 1) : Nat) : Int)) (pc2 := 72) dX12_readPut_69 rfl fX12_179 (w12_7 _) (hK_317 hS_N1) (by decide) ?_
      refine r_aload0 (pc2 := 73) dX12_readPut_72 rfl ?_
      refine r_getR (pc2 := 76) dX12_readPut_73 rfl fX12_74 (hK_317 hS_N1) (hR_317_12 hS_N1) ?_
      refine r_iconst (pc2 := 77) dX12_readPut_76 rfl ?_
      refine r_iload1 (pc2 := 78) dX12_readPut_77 rfl ?_
      refine r_imul (c := ((5 * gS G : Nat) : Int)) (pc2 := 79) dX12_readPut_78 rfl (by omega) ?_
      refine r_iload2 (pc2 := 80) dX12_readPut_79 rfl ?_
      refine r_iast (z := (kK T r_2.1)) (pc2 := 81) dX12_readPut_80 rfl (hK_324 hS_N1) (by decide) (5 * gS G) rfl (by omega) ?_
      refine r_iload2 (pc2 := 82) dX12_readPut_81 rfl ?_
      refine r_iconst (pc2 := 83) dX12_readPut_82 rfl ?_
      refine r_iceq (tgt := 92) (pc2 := 86) dX12_readPut_83 rfl (by decide) ⟨by omega, by omega⟩ ⟨by omega, by omega⟩ (fun b_83 => ?_) (fun b_83 => ?_)
      · refine r_aload0 (pc2 := 93) dX12_readPut_92 rfl ?_
        refine r_getR (pc2 := 96) dX12_readPut_93 rfl fX12_74 (hK_317 hS_N1) (hR_317_12 hS_N1) ?_
        refine r_iconst (pc2 := 97) dX12_readPut_96 rfl ?_
        refine r_iload1 (pc2 := 98) dX12_readPut_97 rfl ?_
        refine r_imul (c := ((5 * gS G : Nat) : Int)) (pc2 := 99) dX12_readPut_98 rfl (by omega) ?_
        refine r_iconst (pc2 := 100) dX12_readPut_99 rfl ?_
        refine r_iadd (c := (((5 * gS G : Nat) : Int) + 1)) (pc2 := 101) dX12_readPut_100 rfl rfl ?_
        refine r_aload0 (pc2 := 102) dX12_readPut_101 rfl ?_
        refine r_iconst (pc2 := 103) dX12_readPut_102 rfl ?_
        refine r_iconst (pc2 := 104) dX12_readPut_103 rfl ?_
        rw [mM_a]
        obtain ⟨r_3, e_r_3⟩ : ∃ x, x = av T r_2 := ⟨_, rfl⟩
        have q_r_3 : r_3 = (r_2.1 + 1, 0) := by rw [e_r_3, av_y z_r_2 l_r_2]
        rw [show ((r_2.1 + 1, r_2.2) : rdT) = r_3 from by rw [q_r_3, z_r_2]]
        have o_r_3 : rOk T r_3 := by rw [e_r_3]; exact o_r_2.a
        have z_r_3 : r_3.2 = 0 := by rw [q_r_3]
        have i_r_3 := o_r_3.2
        have t_r_3 := o_r_3.1
        rw [mM_o (by omega)]
        obtain ⟨N4, h_N4⟩ : ∃ x, x = pI N1 324 (5 * gS G) (kK T r_2.1) := ⟨_, rfl⟩
        rw [← h_N4]
        have p_N4 : frP N1 N4 := by rw [h_N4]; exact frP.rf.I (Or.inl (by decide))
        have hS_N4 : sOk N4.1 := p_N4.1.ok hS_N1
        have hC_N4 : mT N4 T := hC_N1.fp p_N4
        have hW_N4 : mWd N4 := hW_N1.fp p_N4
        refine r_cv2 (pc2 := 107) dX12_readPut_104 rfl vX12_204 (hK_317 hS_N4) (Nat.le_of_ble_eq_true rfl) (c_X12_takeNumber (d := d + 1) (M := N4) (r := r_3) (lo := 0) (hi := 1) hS_N4 hT hC_N4 o_r_3 ⟨by omega, by omega⟩ ⟨by omega, by omega⟩) ?_
        rintro _ M9 ⟨z_5, hz_z_5, rfl, h9, hv_z_5⟩
        obtain ⟨z_51, z_52⟩ := hz_z_5
        obtain ⟨r_6, e_r_6⟩ : ∃ x, x = rN T 0 1 r_3 := ⟨_, rfl⟩
        rw [← e_r_6] at h9
        rw [h9]
        have o_r_6 : rOk T r_6 := by rw [e_r_6]; exact o_r_3.N hT
        have i_r_6 := o_r_6.2
        have t_r_6 := o_r_6.1
        show Go (Ct (d + 3)) _ yX12_readPut cX12_readPut none 0 0 107 [some (.ref 317), some (.int (iI ((gS G : Nat) : Int))), some (.int (iI (kK T r_2.1))), some (.int (iI 17))] [.int (iI z_5), .int (iI (((5 * gS G : Nat) : Int) + 1)), .ref 324] (mM N4 r_6)
        refine r_iast (z := z_5) (pc2 := 108) dX12_readPut_107 rfl (hK_324 hS_N4) (by decide) (5 * gS G + 1) (by omega) (by omega) ?_
        refine r_goto (tgt := 159) dX12_readPut_108 (by decide) ?_
        refine r_aload0 (pc2 := 160) dX12_readPut_159 rfl ?_
        refine r_getR (pc2 := 163) dX12_readPut_160 rfl fX12_74 (hK_317 hS_N4) (hR_317_12 hS_N4) ?_
        refine r_iconst (pc2 := 164) dX12_readPut_163 rfl ?_
        refine r_iload1 (pc2 := 165) dX12_readPut_164 rfl ?_
        refine r_imul (c := ((5 * gS G : Nat) : Int)) (pc2 := 166) dX12_readPut_165 rfl (by omega) ?_
        refine r_iconst (pc2 := 167) dX12_readPut_166 rfl ?_
        refine r_iadd (c := (((5 * gS G : Nat) : Int) + 2)) (pc2 := 168) dX12_readPut_167 rfl rfl ?_
        refine r_aload0 (pc2 := 169) dX12_readPut_168 rfl ?_
        refine r_iconst (pc2 := 170) dX12_readPut_169 rfl ?_
        refine r_bipush (pc2 := 172) dX12_readPut_170 rfl (by decide) (by decide) ?_
        rw [mM_o (by omega)]
        obtain ⟨N7, h_N7⟩ : ∃ x, x = pI N4 324 (5 * gS G + 1) z_5 := ⟨_, rfl⟩
        rw [← h_N7]
        have p_N7 : frP N4 N7 := by rw [h_N7]; exact frP.rf.I (Or.inl (by decide))
        have hS_N7 : sOk N7.1 := p_N7.1.ok hS_N4
        have hC_N7 : mT N7 T := hC_N4.fp p_N7
        have hW_N7 : mWd N7 := hW_N4.fp p_N7
        refine r_cv2 (pc2 := 175) dX12_readPut_172 rfl vX12_204 (hK_317 hS_N7) (Nat.le_of_ble_eq_true rfl) (c_X12_takeNumber (d := d + 1) (M := N7) (r := r_6) (lo := 0) (hi := 12) hS_N7 hT hC_N7 o_r_6 ⟨by omega, by omega⟩ ⟨by omega, by omega⟩) ?_
        rintro _ M9 ⟨z_8, hz_z_8, rfl, h9, hv_z_8⟩
        obtain ⟨z_81, z_82⟩ := hz_z_8
        obtain ⟨r_9, e_r_9⟩ : ∃ x, x = rN T 0 12 r_6 := ⟨_, rfl⟩
        rw [← e_r_9] at h9
        rw [h9]
        have o_r_9 : rOk T r_9 := by rw [e_r_9]; exact o_r_6.N hT
        have i_r_9 := o_r_9.2
        have t_r_9 := o_r_9.1
        show Go (Ct (d + 3)) _ yX12_readPut cX12_readPut none 0 0 175 [some (.ref 317), some (.int (iI ((gS G : Nat) : Int))), some (.int (iI (kK T r_2.1))), some (.int (iI 17))] [.int (iI z_8), .int (iI (((5 * gS G : Nat) : Int) + 2)), .ref 324] (mM N7 r_9)
        refine r_iast (z := z_8) (pc2 := 176) dX12_readPut_175 rfl (hK_324 hS_N7) (by decide) (5 * gS G + 2) (by omega) (by omega) ?_
        refine r_aload0 (pc2 := 177) dX12_readPut_176 rfl ?_
        refine r_getR (pc2 := 180) dX12_readPut_177 rfl fX12_74 (hK_317 hS_N7) (hR_317_12 hS_N7) ?_
        refine r_iconst (pc2 := 181) dX12_readPut_180 rfl ?_
        refine r_iload1 (pc2 := 182) dX12_readPut_181 rfl ?_
        refine r_imul (c := ((5 * gS G : Nat) : Int)) (pc2 := 183) dX12_readPut_182 rfl (by omega) ?_
        refine r_iconst (pc2 := 184) dX12_readPut_183 rfl ?_
        refine r_iadd (c := (((5 * gS G : Nat) : Int) + 3)) (pc2 := 185) dX12_readPut_184 rfl rfl ?_
        refine r_aload0 (pc2 := 186) dX12_readPut_185 rfl ?_
        refine r_iconst (pc2 := 187) dX12_readPut_186 rfl ?_
        refine r_bipush (pc2 := 189) dX12_readPut_187 rfl (by decide) (by decide) ?_
        rw [mM_o (by omega)]
        obtain ⟨N10, h_N10⟩ : ∃ x, x = pI N7 324 (5 * gS G + 2) z_8 := ⟨_, rfl⟩
        rw [← h_N10]
        have p_N10 : frP N7 N10 := by rw [h_N10]; exact frP.rf.I (Or.inl (by decide))
        have hS_N10 : sOk N10.1 := p_N10.1.ok hS_N7
        have hC_N10 : mT N10 T := hC_N7.fp p_N10
        have hW_N10 : mWd N10 := hW_N7.fp p_N10
        refine r_cv2 (pc2 := 192) dX12_readPut_189 rfl vX12_204 (hK_317 hS_N10) (Nat.le_of_ble_eq_true rfl) (c_X12_takeNumber (d := d + 1) (M := N10) (r := r_9) (lo := 0) (hi := 11) hS_N10 hT hC_N10 o_r_9 ⟨by omega, by omega⟩ ⟨by omega, by omega⟩) ?_
        rintro _ M9 ⟨z_11, hz_z_11, rfl, h9, hv_z_11⟩
        obtain ⟨z_111, z_112⟩ := hz_z_11
        obtain ⟨r_12, e_r_12⟩ : ∃ x, x = rN T 0 11 r_9 := ⟨_, rfl⟩
        rw [← e_r_12] at h9
        rw [h9]
        have o_r_12 : rOk T r_12 := by rw [e_r_12]; exact o_r_9.N hT
        have i_r_12 := o_r_12.2
        have t_r_12 := o_r_12.1
        show Go (Ct (d + 3)) _ yX12_readPut cX12_readPut none 0 0 192 [some (.ref 317), some (.int (iI ((gS G : Nat) : Int))), some (.int (iI (kK T r_2.1))), some (.int (iI 17))] [.int (iI z_11), .int (iI (((5 * gS G : Nat) : Int) + 3)), .ref 324] (mM N10 r_12)
        refine r_iast (z := z_11) (pc2 := 193) dX12_readPut_192 rfl (hK_324 hS_N10) (by decide) (5 * gS G + 3) (by omega) (by omega) ?_
        refine r_ret dX12_readPut_193 rfl ?_
        rw [mM_o (by omega)]
        obtain ⟨N13, h_N13⟩ : ∃ x, x = pI N10 324 (5 * gS G + 3) z_11 := ⟨_, rfl⟩
        rw [← h_N13]
        have p_N13 : frP N10 N13 := by rw [h_N13]; exact frP.rf.I (Or.inl (by decide))
        have hS_N13 : sOk N13.1 := p_N13.1.ok hS_N10
        have hC_N13 : mT N13 T := hC_N10.fp p_N13
        have hW_N13 : mWd N13 := hW_N10.fp p_N13
        have c_49 : (kK T r_2.1 = 4 ∨ kK T r_2.1 = 9) := by omega
        have c_m : (kK T r_2.1 = 4 ∨ kK T r_2.1 = 9 ∨ kK T r_2.1 = 6 ∨ kK T r_2.1 = 7) := by omega
        have hl : lPut T r G = (rK T 59 r_12, gLine G 10 (kK T r_2.1) ((kV T r_3.1 : Nat) : Int) ((kV T r_6.1 : Nat) : Int) ((kV T r_9.1 : Nat) : Int)) := by
          unfold lPut
          dsimp only
          rw [← e_r_2, if_pos c_rg, ← e_r_3, if_pos c_49, ← e_r_6, if_pos c_m, ← e_r_9, ← e_r_12]
        refine ⟨rfl, N13, r_12, rfl, (((((p_N1).tr p_N4).tr p_N7).tr p_N10).tr p_N13), o_r_12, by rw [hl], fun q => ?_⟩
        rw [hl]
        have f_r_12 := rN_0 (lo := 0) (hi := 11) hT o_r_9 (by rw [← e_r_12]; exact q)
        have v_z_11 := hv_z_11 (by rw [← e_r_12]; exact q)
        have f_r_9 := rN_0 (lo := 0) (hi := 12) hT o_r_6 (by rw [← e_r_9]; exact f_r_12.1)
        have v_z_8 := hv_z_8 (by rw [← e_r_9]; exact f_r_12.1)
        have f_r_6 := rN_0 (lo := 0) (hi := 1) hT o_r_3 (by rw [← e_r_6]; exact f_r_9.1)
        have v_z_5 := hv_z_5 (by rw [← e_r_6]; exact f_r_9.1)
        have f_r_3 : r_2.2 = 0 := z_r_2
        have f_r_2 : r.2 = 0 := z_r
        refine hG.line (a := 10) (by rw [h_N13, h_N10, h_N7, h_N4, h_N1]; rfl) (by rw [h_N13, h_N10, h_N7, h_N4, h_N1]; rfl) (by rw [h_N13, h_N10, h_N7, h_N4, h_N1]; rfl) (by rw [h_N13, h_N10, h_N7, h_N4, h_N1]; rfl) (fun j hj => ?_) (by rw [h_N13, h_N10, h_N7, h_N4, h_N1]; rfl) (by rw [h_N13, h_N10, h_N7, h_N4, h_N1]; rfl) ?_
        · rw [h_N13, h_N10, h_N7, h_N4, h_N1]
          show (va_up (va_up (va_up (va_up (va_up (va_up (va_up (va_up (va_up (M.2.1 324) (5 * gS G) 0) (5 * gS G + 1) 0) (5 * gS G + 2) 0) (5 * gS G + 3) 0) (5 * gS G + 4) 0) (5 * gS G) (kK T r_2.1)) (5 * gS G + 1) z_5) (5 * gS G + 2) z_8) (5 * gS G + 3) z_11) j = M.2.1 324 j
          repeat (first | rw [up_at] | rw [up_ne (by omega)])
        · unfold mArg
          rw [show gA (gLine G 10 (kK T r_2.1) ((kV T r_3.1 : Nat) : Int) ((kV T r_6.1 : Nat) : Int) ((kV T r_9.1 : Nat) : Int)) (gS G) = 10 from up_at, show g1 (gLine G 10 (kK T r_2.1) ((kV T r_3.1 : Nat) : Int) ((kV T r_6.1 : Nat) : Int) ((kV T r_9.1 : Nat) : Int)) (gS G) = _ from up_at, show g2 (gLine G 10 (kK T r_2.1) ((kV T r_3.1 : Nat) : Int) ((kV T r_6.1 : Nat) : Int) ((kV T r_9.1 : Nat) : Int)) (gS G) = _ from up_at, show g3 (gLine G 10 (kK T r_2.1) ((kV T r_3.1 : Nat) : Int) ((kV T r_6.1 : Nat) : Int) ((kV T r_9.1 : Nat) : Int)) (gS G) = _ from up_at, show g4 (gLine G 10 (kK T r_2.1) ((kV T r_3.1 : Nat) : Int) ((kV T r_6.1 : Nat) : Int) ((kV T r_9.1 : Nat) : Int)) (gS G) = _ from up_at]
          refine ⟨fun _ _ => ?_, fun c => absurd c (by decide), fun _ => ⟨?_, ?_⟩, fun c => absurd c (by decide), fun _ => ?_⟩
          · rw [h_N13, h_N10, h_N7, h_N4, h_N1]
            show (va_up (va_up (va_up (va_up (va_up (va_up (va_up (va_up (va_up (M.2.1 324) (5 * gS G) 0) (5 * gS G + 1) 0) (5 * gS G + 2) 0) (5 * gS G + 3) 0) (5 * gS G + 4) 0) (5 * gS G) (kK T r_2.1)) (5 * gS G + 1) z_5) (5 * gS G + 2) z_8) (5 * gS G + 3) z_11) (5 * gS G) = _
            repeat (first | rw [up_at] | rw [up_ne (by omega)])
          · rw [h_N13, h_N10, h_N7, h_N4, h_N1]
            show (va_up (va_up (va_up (va_up (va_up (va_up (va_up (va_up (va_up (M.2.1 324) (5 * gS G) 0) (5 * gS G + 1) 0) (5 * gS G + 2) 0) (5 * gS G + 3) 0) (5 * gS G + 4) 0) (5 * gS G) (kK T r_2.1)) (5 * gS G + 1) z_5) (5 * gS G + 2) z_8) (5 * gS G + 3) z_11) (5 * gS G + 1) = _
            repeat (first | rw [up_at] | rw [up_ne (by omega)])
            exact v_z_5
          · rw [h_N13, h_N10, h_N7, h_N4, h_N1]
            show (va_up (va_up (va_up (va_up (va_up (va_up (va_up (va_up (va_up (M.2.1 324) (5 * gS G) 0) (5 * gS G + 1) 0) (5 * gS G + 2) 0) (5 * gS G + 3) 0) (5 * gS G + 4) 0) (5 * gS G) (kK T r_2.1)) (5 * gS G + 1) z_5) (5 * gS G + 2) z_8) (5 * gS G + 3) z_11) (5 * gS G + 2) = _
            repeat (first | rw [up_at] | rw [up_ne (by omega)])
            exact v_z_8
          · rw [h_N13, h_N10, h_N7, h_N4, h_N1]
            show (va_up (va_up (va_up (va_up (va_up (va_up (va_up (va_up (va_up (M.2.1 324) (5 * gS G) 0) (5 * gS G + 1) 0) (5 * gS G + 2) 0) (5 * gS G + 3) 0) (5 * gS G + 4) 0) (5 * gS G) (kK T r_2.1)) (5 * gS G + 1) z_5) (5 * gS G + 2) z_8) (5 * gS G + 3) z_11) (5 * gS G + 3) = _
            repeat (first | rw [up_at] | rw [up_ne (by omega)])
            exact v_z_11
      · refine r_iload2 (pc2 := 87) dX12_readPut_86 rfl ?_
        refine r_bipush (pc2 := 89) dX12_readPut_87 rfl (by decide) (by decide) ?_
        refine r_icne (tgt := 111) (pc2 := 92) dX12_readPut_89 rfl (by decide) ⟨by omega, by omega⟩ ⟨by omega, by omega⟩ (fun b_89 => ?_) (fun b_89 => ?_)
        · refine r_iload2 (pc2 := 112) dX12_readPut_111 rfl ?_
          refine r_bipush (pc2 := 114) dX12_readPut_112 rfl (by decide) (by decide) ?_
          refine r_icne (tgt := 136) (pc2 := 117) dX12_readPut_114 rfl (by decide) ⟨by omega, by omega⟩ ⟨by omega, by omega⟩ (fun b_114 => ?_) (fun b_114 => ?_)
          · refine r_iload2 (pc2 := 137) dX12_readPut_136 rfl ?_
            refine r_bipush (pc2 := 139) dX12_readPut_137 rfl (by decide) (by decide) ?_
            refine r_icne (tgt := 159) (pc2 := 142) dX12_readPut_139 rfl (by decide) ⟨by omega, by omega⟩ ⟨by omega, by omega⟩ (fun b_139 => ?_) (fun b_139 => ?_)
            · refine r_aload0 (pc2 := 160) dX12_readPut_159 rfl ?_
              refine r_getR (pc2 := 163) dX12_readPut_160 rfl fX12_74 (hK_317 hS_N1) (hR_317_12 hS_N1) ?_
              refine r_iconst (pc2 := 164) dX12_readPut_163 rfl ?_
              refine r_iload1 (pc2 := 165) dX12_readPut_164 rfl ?_
              refine r_imul (c := ((5 * gS G : Nat) : Int)) (pc2 := 166) dX12_readPut_165 rfl (by omega) ?_
              refine r_iconst (pc2 := 167) dX12_readPut_166 rfl ?_
              refine r_iadd (c := (((5 * gS G : Nat) : Int) + 2)) (pc2 := 168) dX12_readPut_167 rfl rfl ?_
              refine r_aload0 (pc2 := 169) dX12_readPut_168 rfl ?_
              refine r_iconst (pc2 := 170) dX12_readPut_169 rfl ?_
              refine r_bipush (pc2 := 172) dX12_readPut_170 rfl (by decide) (by decide) ?_
              rw [mM_a]
              obtain ⟨r_14, e_r_14⟩ : ∃ x, x = av T r_2 := ⟨_, rfl⟩
              have q_r_14 : r_14 = (r_2.1 + 1, 0) := by rw [e_r_14, av_y z_r_2 l_r_2]
              rw [show ((r_2.1 + 1, r_2.2) : rdT) = r_14 from by rw [q_r_14, z_r_2]]
              have o_r_14 : rOk T r_14 := by rw [e_r_14]; exact o_r_2.a
              have z_r_14 : r_14.2 = 0 := by rw [q_r_14]
              have i_r_14 := o_r_14.2
              have t_r_14 := o_r_14.1
              rw [mM_o (by omega)]
              obtain ⟨N15, h_N15⟩ : ∃ x, x = pI N1 324 (5 * gS G) (kK T r_2.1) := ⟨_, rfl⟩
              rw [← h_N15]
              have p_N15 : frP N1 N15 := by rw [h_N15]; exact frP.rf.I (Or.inl (by decide))
              have hS_N15 : sOk N15.1 := p_N15.1.ok hS_N1
              have hC_N15 : mT N15 T := hC_N1.fp p_N15
              have hW_N15 : mWd N15 := hW_N1.fp p_N15
              refine r_cv2 (pc2 := 175) dX12_readPut_172 rfl vX12_204 (hK_317 hS_N15) (Nat.le_of_ble_eq_true rfl) (c_X12_takeNumber (d := d + 1) (M := N15) (r := r_14) (lo := 0) (hi := 12) hS_N15 hT hC_N15 o_r_14 ⟨by omega, by omega⟩ ⟨by omega, by omega⟩) ?_
              rintro _ M9 ⟨z_16, hz_z_16, rfl, h9, hv_z_16⟩
              obtain ⟨z_161, z_162⟩ := hz_z_16
              obtain ⟨r_17, e_r_17⟩ : ∃ x, x = rN T 0 12 r_14 := ⟨_, rfl⟩
              rw [← e_r_17] at h9
              rw [h9]
              have o_r_17 : rOk T r_17 := by rw [e_r_17]; exact o_r_14.N hT
              have i_r_17 := o_r_17.2
              have t_r_17 := o_r_17.1
              show Go (Ct (d + 3)) _ yX12_readPut cX12_readPut none 0 0 175 [some (.ref 317), some (.int (iI ((gS G : Nat) : Int))), some (.int (iI (kK T r_2.1))), some (.int (iI 17))] [.int (iI z_16), .int (iI (((5 * gS G : Nat) : Int) + 2)), .ref 324] (mM N15 r_17)
              refine r_iast (z := z_16) (pc2 := 176) dX12_readPut_175 rfl (hK_324 hS_N15) (by decide) (5 * gS G + 2) (by omega) (by omega) ?_
              refine r_aload0 (pc2 := 177) dX12_readPut_176 rfl ?_
              refine r_getR (pc2 := 180) dX12_readPut_177 rfl fX12_74 (hK_317 hS_N15) (hR_317_12 hS_N15) ?_
              refine r_iconst (pc2 := 181) dX12_readPut_180 rfl ?_
              refine r_iload1 (pc2 := 182) dX12_readPut_181 rfl ?_
              refine r_imul (c := ((5 * gS G : Nat) : Int)) (pc2 := 183) dX12_readPut_182 rfl (by omega) ?_
              refine r_iconst (pc2 := 184) dX12_readPut_183 rfl ?_
              refine r_iadd (c := (((5 * gS G : Nat) : Int) + 3)) (pc2 := 185) dX12_readPut_184 rfl rfl ?_
              refine r_aload0 (pc2 := 186) dX12_readPut_185 rfl ?_
              refine r_iconst (pc2 := 187) dX12_readPut_186 rfl ?_
              refine r_bipush (pc2 := 189) dX12_readPut_187 rfl (by decide) (by decide) ?_
              rw [mM_o (by omega)]
              obtain ⟨N18, h_N18⟩ : ∃ x, x = pI N15 324 (5 * gS G + 2) z_16 := ⟨_, rfl⟩
              rw [← h_N18]
              have p_N18 : frP N15 N18 := by rw [h_N18]; exact frP.rf.I (Or.inl (by decide))
              have hS_N18 : sOk N18.1 := p_N18.1.ok hS_N15
              have hC_N18 : mT N18 T := hC_N15.fp p_N18
              have hW_N18 : mWd N18 := hW_N15.fp p_N18
              refine r_cv2 (pc2 := 192) dX12_readPut_189 rfl vX12_204 (hK_317 hS_N18) (Nat.le_of_ble_eq_true rfl) (c_X12_takeNumber (d := d + 1) (M := N18) (r := r_17) (lo := 0) (hi := 11) hS_N18 hT hC_N18 o_r_17 ⟨by omega, by omega⟩ ⟨by omega, by omega⟩) ?_
              rintro _ M9 ⟨z_19, hz_z_19, rfl, h9, hv_z_19⟩
              obtain ⟨z_191, z_192⟩ := hz_z_19
              obtain ⟨r_20, e_r_20⟩ : ∃ x, x = rN T 0 11 r_17 := ⟨_, rfl⟩
              rw [← e_r_20] at h9
              rw [h9]
              have o_r_20 : rOk T r_20 := by rw [e_r_20]; exact o_r_17.N hT
              have i_r_20 := o_r_20.2
              have t_r_20 := o_r_20.1
              show Go (Ct (d + 3)) _ yX12_readPut cX12_readPut none 0 0 192 [some (.ref 317), some (.int (iI ((gS G : Nat) : Int))), some (.int (iI (kK T r_2.1))), some (.int (iI 17))] [.int (iI z_19), .int (iI (((5 * gS G : Nat) : Int) + 3)), .ref 324] (mM N18 r_20)
              refine r_iast (z := z_19) (pc2 := 193) dX12_readPut_192 rfl (hK_324 hS_N18) (by decide) (5 * gS G + 3) (by omega) (by omega) ?_
              refine r_ret dX12_readPut_193 rfl ?_
              rw [mM_o (by omega)]
              obtain ⟨N21, h_N21⟩ : ∃ x, x = pI N18 324 (5 * gS G + 3) z_19 := ⟨_, rfl⟩
              rw [← h_N21]
              have p_N21 : frP N18 N21 := by rw [h_N21]; exact frP.rf.I (Or.inl (by decide))
              have hS_N21 : sOk N21.1 := p_N21.1.ok hS_N18
              have hC_N21 : mT N21 T := hC_N18.fp p_N21
              have hW_N21 : mWd N21 := hW_N18.fp p_N21
              have c_49 : ¬ (kK T r_2.1 = 4 ∨ kK T r_2.1 = 9) := by omega
              have c_6 : ¬ kK T r_2.1 = 6 := by omega
              have c_7 : ¬ kK T r_2.1 = 7 := by omega
              have c_m : ¬ (kK T r_2.1 = 4 ∨ kK T r_2.1 = 9 ∨ kK T r_2.1 = 6 ∨ kK T r_2.1 = 7) := by omega
              have hl : lPut T r G = (rK T 59 r_20, gLine G 10 (kK T r_2.1) 0 ((kV T r_14.1 : Nat) : Int) ((kV T r_17.1 : Nat) : Int)) := by
                unfold lPut
                dsimp only
                rw [← e_r_2, if_pos c_rg, ← e_r_14, if_neg c_49, if_neg c_6, if_neg c_7, if_neg c_m, ← e_r_17, ← e_r_20]
              refine ⟨rfl, N21, r_20, rfl, ((((p_N1).tr p_N15).tr p_N18).tr p_N21), o_r_20, by rw [hl], fun q => ?_⟩
              rw [hl]
              have f_r_20 := rN_0 (lo := 0) (hi := 11) hT o_r_17 (by rw [← e_r_20]; exact q)
              have v_z_19 := hv_z_19 (by rw [← e_r_20]; exact q)
              have f_r_17 := rN_0 (lo := 0) (hi := 12) hT o_r_14 (by rw [← e_r_17]; exact f_r_20.1)
              have v_z_16 := hv_z_16 (by rw [← e_r_17]; exact f_r_20.1)
              have f_r_14 : r_2.2 = 0 := z_r_2
              have f_r_2 : r.2 = 0 := z_r
              refine hG.line (a := 10) (by rw [h_N21, h_N18, h_N15, h_N1]; rfl) (by rw [h_N21, h_N18, h_N15, h_N1]; rfl) (by rw [h_N21, h_N18, h_N15, h_N1]; rfl) (by rw [h_N21, h_N18, h_N15, h_N1]; rfl) (fun j hj => ?_) (by rw [h_N21, h_N18, h_N15, h_N1]; rfl) (by rw [h_N21, h_N18, h_N15, h_N1]; rfl) ?_
              · rw [h_N21, h_N18, h_N15, h_N1]
                show (va_up (va_up (va_up (va_up (va_up (va_up (va_up (va_up (M.2.1 324) (5 * gS G) 0) (5 * gS G + 1) 0) (5 * gS G + 2) 0) (5 * gS G + 3) 0) (5 * gS G + 4) 0) (5 * gS G) (kK T r_2.1)) (5 * gS G + 2) z_16) (5 * gS G + 3) z_19) j = M.2.1 324 j
                repeat (first | rw [up_at] | rw [up_ne (by omega)])
              · unfold mArg
                rw [show gA (gLine G 10 (kK T r_2.1) 0 ((kV T r_14.1 : Nat) : Int) ((kV T r_17.1 : Nat) : Int)) (gS G) = 10 from up_at, show g1 (gLine G 10 (kK T r_2.1) 0 ((kV T r_14.1 : Nat) : Int) ((kV T r_17.1 : Nat) : Int)) (gS G) = _ from up_at, show g2 (gLine G 10 (kK T r_2.1) 0 ((kV T r_14.1 : Nat) : Int) ((kV T r_17.1 : Nat) : Int)) (gS G) = _ from up_at, show g3 (gLine G 10 (kK T r_2.1) 0 ((kV T r_14.1 : Nat) : Int) ((kV T r_17.1 : Nat) : Int)) (gS G) = _ from up_at, show g4 (gLine G 10 (kK T r_2.1) 0 ((kV T r_14.1 : Nat) : Int) ((kV T r_17.1 : Nat) : Int)) (gS G) = _ from up_at]
                refine ⟨fun _ _ => ?_, fun c => absurd c (by decide), fun _ => ⟨?_, ?_⟩, fun c => absurd c (by decide), fun _ => ?_⟩
                · rw [h_N21, h_N18, h_N15, h_N1]
                  show (va_up (va_up (va_up (va_up (va_up (va_up (va_up (va_up (M.2.1 324) (5 * gS G) 0) (5 * gS G + 1) 0) (5 * gS G + 2) 0) (5 * gS G + 3) 0) (5 * gS G + 4) 0) (5 * gS G) (kK T r_2.1)) (5 * gS G + 2) z_16) (5 * gS G + 3) z_19) (5 * gS G) = _
                  repeat (first | rw [up_at] | rw [up_ne (by omega)])
                · rw [h_N21, h_N18, h_N15, h_N1]
                  show (va_up (va_up (va_up (va_up (va_up (va_up (va_up (va_up (M.2.1 324) (5 * gS G) 0) (5 * gS G + 1) 0) (5 * gS G + 2) 0) (5 * gS G + 3) 0) (5 * gS G + 4) 0) (5 * gS G) (kK T r_2.1)) (5 * gS G + 2) z_16) (5 * gS G + 3) z_19) (5 * gS G + 1) = _
                  repeat (first | rw [up_at] | rw [up_ne (by omega)])
                · rw [h_N21, h_N18, h_N15, h_N1]
                  show (va_up (va_up (va_up (va_up (va_up (va_up (va_up (va_up (M.2.1 324) (5 * gS G) 0) (5 * gS G + 1) 0) (5 * gS G + 2) 0) (5 * gS G + 3) 0) (5 * gS G + 4) 0) (5 * gS G) (kK T r_2.1)) (5 * gS G + 2) z_16) (5 * gS G + 3) z_19) (5 * gS G + 2) = _
                  repeat (first | rw [up_at] | rw [up_ne (by omega)])
                  exact v_z_16
                · rw [h_N21, h_N18, h_N15, h_N1]
                  show (va_up (va_up (va_up (va_up (va_up (va_up (va_up (va_up (M.2.1 324) (5 * gS G) 0) (5 * gS G + 1) 0) (5 * gS G + 2) 0) (5 * gS G + 3) 0) (5 * gS G + 4) 0) (5 * gS G) (kK T r_2.1)) (5 * gS G + 2) z_16) (5 * gS G + 3) z_19) (5 * gS G + 3) = _
                  repeat (first | rw [up_at] | rw [up_ne (by omega)])
                  exact v_z_19
            · refine r_aload0 (pc2 := 143) dX12_readPut_142 rfl ?_
              refine r_getR (pc2 := 146) dX12_readPut_143 rfl fX12_74 (hK_317 hS_N1) (hR_317_12 hS_N1) ?_
              refine r_iconst (pc2 := 147) dX12_readPut_146 rfl ?_
              refine r_iload1 (pc2 := 148) dX12_readPut_147 rfl ?_
              refine r_imul (c := ((5 * gS G : Nat) : Int)) (pc2 := 149) dX12_readPut_148 rfl (by omega) ?_
              refine r_iconst (pc2 := 150) dX12_readPut_149 rfl ?_
              refine r_iadd (c := (((5 * gS G : Nat) : Int) + 1)) (pc2 := 151) dX12_readPut_150 rfl rfl ?_
              refine r_aload0 (pc2 := 152) dX12_readPut_151 rfl ?_
              refine r_iconst (pc2 := 153) dX12_readPut_152 rfl ?_
              refine r_bipush (pc2 := 155) dX12_readPut_153 rfl (by decide) (by decide) ?_
              rw [mM_a]
              obtain ⟨r_22, e_r_22⟩ : ∃ x, x = av T r_2 := ⟨_, rfl⟩
              have q_r_22 : r_22 = (r_2.1 + 1, 0) := by rw [e_r_22, av_y z_r_2 l_r_2]
              rw [show ((r_2.1 + 1, r_2.2) : rdT) = r_22 from by rw [q_r_22, z_r_2]]
              have o_r_22 : rOk T r_22 := by rw [e_r_22]; exact o_r_2.a
              have z_r_22 : r_22.2 = 0 := by rw [q_r_22]
              have i_r_22 := o_r_22.2
              have t_r_22 := o_r_22.1
              rw [mM_o (by omega)]
              obtain ⟨N23, h_N23⟩ : ∃ x, x = pI N1 324 (5 * gS G) (kK T r_2.1) := ⟨_, rfl⟩
              rw [← h_N23]
              have p_N23 : frP N1 N23 := by rw [h_N23]; exact frP.rf.I (Or.inl (by decide))
              have hS_N23 : sOk N23.1 := p_N23.1.ok hS_N1
              have hC_N23 : mT N23 T := hC_N1.fp p_N23
              have hW_N23 : mWd N23 := hW_N1.fp p_N23
              refine r_cv2 (pc2 := 158) dX12_readPut_155 rfl vX12_204 (hK_317 hS_N23) (Nat.le_of_ble_eq_true rfl) (c_X12_takeNumber (d := d + 1) (M := N23) (r := r_22) (lo := 2) (hi := 9) hS_N23 hT hC_N23 o_r_22 ⟨by omega, by omega⟩ ⟨by omega, by omega⟩) ?_
              rintro _ M9 ⟨z_24, hz_z_24, rfl, h9, hv_z_24⟩
              obtain ⟨z_241, z_242⟩ := hz_z_24
              obtain ⟨r_25, e_r_25⟩ : ∃ x, x = rN T 2 9 r_22 := ⟨_, rfl⟩
              rw [← e_r_25] at h9
              rw [h9]
              have o_r_25 : rOk T r_25 := by rw [e_r_25]; exact o_r_22.N hT
              have i_r_25 := o_r_25.2
              have t_r_25 := o_r_25.1
              show Go (Ct (d + 3)) _ yX12_readPut cX12_readPut none 0 0 158 [some (.ref 317), some (.int (iI ((gS G : Nat) : Int))), some (.int (iI (kK T r_2.1))), some (.int (iI 17))] [.int (iI z_24), .int (iI (((5 * gS G : Nat) : Int) + 1)), .ref 324] (mM N23 r_25)
              refine r_iast (z := z_24) (pc2 := 159) dX12_readPut_158 rfl (hK_324 hS_N23) (by decide) (5 * gS G + 1) (by omega) (by omega) ?_
              refine r_aload0 (pc2 := 160) dX12_readPut_159 rfl ?_
              refine r_getR (pc2 := 163) dX12_readPut_160 rfl fX12_74 (hK_317 hS_N23) (hR_317_12 hS_N23) ?_
              refine r_iconst (pc2 := 164) dX12_readPut_163 rfl ?_
              refine r_iload1 (pc2 := 165) dX12_readPut_164 rfl ?_
              refine r_imul (c := ((5 * gS G : Nat) : Int)) (pc2 := 166) dX12_readPut_165 rfl (by omega) ?_
              refine r_iconst (pc2 := 167) dX12_readPut_166 rfl ?_
              refine r_iadd (c := (((5 * gS G : Nat) : Int) + 2)) (pc2 := 168) dX12_readPut_167 rfl rfl ?_
              refine r_aload0 (pc2 := 169) dX12_readPut_168 rfl ?_
              refine r_iconst (pc2 := 170) dX12_readPut_169 rfl ?_
              refine r_bipush (pc2 := 172) dX12_readPut_170 rfl (by decide) (by decide) ?_
              rw [mM_o (by omega)]
              obtain ⟨N26, h_N26⟩ : ∃ x, x = pI N23 324 (5 * gS G + 1) z_24 := ⟨_, rfl⟩
              rw [← h_N26]
              have p_N26 : frP N23 N26 := by rw [h_N26]; exact frP.rf.I (Or.inl (by decide))
              have hS_N26 : sOk N26.1 := p_N26.1.ok hS_N23
              have hC_N26 : mT N26 T := hC_N23.fp p_N26
              have hW_N26 : mWd N26 := hW_N23.fp p_N26
              refine r_cv2 (pc2 := 175) dX12_readPut_172 rfl vX12_204 (hK_317 hS_N26) (Nat.le_of_ble_eq_true rfl) (c_X12_takeNumber (d := d + 1) (M := N26) (r := r_25) (lo := 0) (hi := 12) hS_N26 hT hC_N26 o_r_25 ⟨by omega, by omega⟩ ⟨by omega, by omega⟩) ?_
              rintro _ M9 ⟨z_27, hz_z_27, rfl, h9, hv_z_27⟩
              obtain ⟨z_271, z_272⟩ := hz_z_27
              obtain ⟨r_28, e_r_28⟩ : ∃ x, x = rN T 0 12 r_25 := ⟨_, rfl⟩
              rw [← e_r_28] at h9
              rw [h9]
              have o_r_28 : rOk T r_28 := by rw [e_r_28]; exact o_r_25.N hT
              have i_r_28 := o_r_28.2
              have t_r_28 := o_r_28.1
              show Go (Ct (d + 3)) _ yX12_readPut cX12_readPut none 0 0 175 [some (.ref 317), some (.int (iI ((gS G : Nat) : Int))), some (.int (iI (kK T r_2.1))), some (.int (iI 17))] [.int (iI z_27), .int (iI (((5 * gS G : Nat) : Int) + 2)), .ref 324] (mM N26 r_28)
              refine r_iast (z := z_27) (pc2 := 176) dX12_readPut_175 rfl (hK_324 hS_N26) (by decide) (5 * gS G + 2) (by omega) (by omega) ?_
              refine r_aload0 (pc2 := 177) dX12_readPut_176 rfl ?_
              refine r_getR (pc2 := 180) dX12_readPut_177 rfl fX12_74 (hK_317 hS_N26) (hR_317_12 hS_N26) ?_
              refine r_iconst (pc2 := 181) dX12_readPut_180 rfl ?_
              refine r_iload1 (pc2 := 182) dX12_readPut_181 rfl ?_
              refine r_imul (c := ((5 * gS G : Nat) : Int)) (pc2 := 183) dX12_readPut_182 rfl (by omega) ?_
              refine r_iconst (pc2 := 184) dX12_readPut_183 rfl ?_
              refine r_iadd (c := (((5 * gS G : Nat) : Int) + 3)) (pc2 := 185) dX12_readPut_184 rfl rfl ?_
              refine r_aload0 (pc2 := 186) dX12_readPut_185 rfl ?_
              refine r_iconst (pc2 := 187) dX12_readPut_186 rfl ?_
              refine r_bipush (pc2 := 189) dX12_readPut_187 rfl (by decide) (by decide) ?_
              rw [mM_o (by omega)]
              obtain ⟨N29, h_N29⟩ : ∃ x, x = pI N26 324 (5 * gS G + 2) z_27 := ⟨_, rfl⟩
              rw [← h_N29]
              have p_N29 : frP N26 N29 := by rw [h_N29]; exact frP.rf.I (Or.inl (by decide))
              have hS_N29 : sOk N29.1 := p_N29.1.ok hS_N26
              have hC_N29 : mT N29 T := hC_N26.fp p_N29
              have hW_N29 : mWd N29 := hW_N26.fp p_N29
              refine r_cv2 (pc2 := 192) dX12_readPut_189 rfl vX12_204 (hK_317 hS_N29) (Nat.le_of_ble_eq_true rfl) (c_X12_takeNumber (d := d + 1) (M := N29) (r := r_28) (lo := 0) (hi := 11) hS_N29 hT hC_N29 o_r_28 ⟨by omega, by omega⟩ ⟨by omega, by omega⟩) ?_
              rintro _ M9 ⟨z_30, hz_z_30, rfl, h9, hv_z_30⟩
              obtain ⟨z_301, z_302⟩ := hz_z_30
              obtain ⟨r_31, e_r_31⟩ : ∃ x, x = rN T 0 11 r_28 := ⟨_, rfl⟩
              rw [← e_r_31] at h9
              rw [h9]
              have o_r_31 : rOk T r_31 := by rw [e_r_31]; exact o_r_28.N hT
              have i_r_31 := o_r_31.2
              have t_r_31 := o_r_31.1
              show Go (Ct (d + 3)) _ yX12_readPut cX12_readPut none 0 0 192 [some (.ref 317), some (.int (iI ((gS G : Nat) : Int))), some (.int (iI (kK T r_2.1))), some (.int (iI 17))] [.int (iI z_30), .int (iI (((5 * gS G : Nat) : Int) + 3)), .ref 324] (mM N29 r_31)
              refine r_iast (z := z_30) (pc2 := 193) dX12_readPut_192 rfl (hK_324 hS_N29) (by decide) (5 * gS G + 3) (by omega) (by omega) ?_
              refine r_ret dX12_readPut_193 rfl ?_
              rw [mM_o (by omega)]
              obtain ⟨N32, h_N32⟩ : ∃ x, x = pI N29 324 (5 * gS G + 3) z_30 := ⟨_, rfl⟩
              rw [← h_N32]
              have p_N32 : frP N29 N32 := by rw [h_N32]; exact frP.rf.I (Or.inl (by decide))
              have hS_N32 : sOk N32.1 := p_N32.1.ok hS_N29
              have hC_N32 : mT N32 T := hC_N29.fp p_N32
              have hW_N32 : mWd N32 := hW_N29.fp p_N32
              have c_49 : ¬ (kK T r_2.1 = 4 ∨ kK T r_2.1 = 9) := by omega
              have c_6 : ¬ kK T r_2.1 = 6 := by omega
              have c_7 : kK T r_2.1 = 7 := by omega
              have c_m : (kK T r_2.1 = 4 ∨ kK T r_2.1 = 9 ∨ kK T r_2.1 = 6 ∨ kK T r_2.1 = 7) := by omega
              have hl : lPut T r G = (rK T 59 r_31, gLine G 10 (kK T r_2.1) ((kV T r_22.1 : Nat) : Int) ((kV T r_25.1 : Nat) : Int) ((kV T r_28.1 : Nat) : Int)) := by
                unfold lPut
                dsimp only
                rw [← e_r_2, if_pos c_rg, ← e_r_22, if_neg c_49, if_neg c_6, if_pos c_7, ← e_r_25, if_pos c_m, ← e_r_28, ← e_r_31]
              refine ⟨rfl, N32, r_31, rfl, (((((p_N1).tr p_N23).tr p_N26).tr p_N29).tr p_N32), o_r_31, by rw [hl], fun q => ?_⟩
              rw [hl]
              have f_r_31 := rN_0 (lo := 0) (hi := 11) hT o_r_28 (by rw [← e_r_31]; exact q)
              have v_z_30 := hv_z_30 (by rw [← e_r_31]; exact q)
              have f_r_28 := rN_0 (lo := 0) (hi := 12) hT o_r_25 (by rw [← e_r_28]; exact f_r_31.1)
              have v_z_27 := hv_z_27 (by rw [← e_r_28]; exact f_r_31.1)
              have f_r_25 := rN_0 (lo := 2) (hi := 9) hT o_r_22 (by rw [← e_r_25]; exact f_r_28.1)
              have v_z_24 := hv_z_24 (by rw [← e_r_25]; exact f_r_28.1)
              have f_r_22 : r_2.2 = 0 := z_r_2
              have f_r_2 : r.2 = 0 := z_r
              refine hG.line (a := 10) (by rw [h_N32, h_N29, h_N26, h_N23, h_N1]; rfl) (by rw [h_N32, h_N29, h_N26, h_N23, h_N1]; rfl) (by rw [h_N32, h_N29, h_N26, h_N23, h_N1]; rfl) (by rw [h_N32, h_N29, h_N26, h_N23, h_N1]; rfl) (fun j hj => ?_) (by rw [h_N32, h_N29, h_N26, h_N23, h_N1]; rfl) (by rw [h_N32, h_N29, h_N26, h_N23, h_N1]; rfl) ?_
              · rw [h_N32, h_N29, h_N26, h_N23, h_N1]
                show (va_up (va_up (va_up (va_up (va_up (va_up (va_up (va_up (va_up (M.2.1 324) (5 * gS G) 0) (5 * gS G + 1) 0) (5 * gS G + 2) 0) (5 * gS G + 3) 0) (5 * gS G + 4) 0) (5 * gS G) (kK T r_2.1)) (5 * gS G + 1) z_24) (5 * gS G + 2) z_27) (5 * gS G + 3) z_30) j = M.2.1 324 j
                repeat (first | rw [up_at] | rw [up_ne (by omega)])
              · unfold mArg
                rw [show gA (gLine G 10 (kK T r_2.1) ((kV T r_22.1 : Nat) : Int) ((kV T r_25.1 : Nat) : Int) ((kV T r_28.1 : Nat) : Int)) (gS G) = 10 from up_at, show g1 (gLine G 10 (kK T r_2.1) ((kV T r_22.1 : Nat) : Int) ((kV T r_25.1 : Nat) : Int) ((kV T r_28.1 : Nat) : Int)) (gS G) = _ from up_at, show g2 (gLine G 10 (kK T r_2.1) ((kV T r_22.1 : Nat) : Int) ((kV T r_25.1 : Nat) : Int) ((kV T r_28.1 : Nat) : Int)) (gS G) = _ from up_at, show g3 (gLine G 10 (kK T r_2.1) ((kV T r_22.1 : Nat) : Int) ((kV T r_25.1 : Nat) : Int) ((kV T r_28.1 : Nat) : Int)) (gS G) = _ from up_at, show g4 (gLine G 10 (kK T r_2.1) ((kV T r_22.1 : Nat) : Int) ((kV T r_25.1 : Nat) : Int) ((kV T r_28.1 : Nat) : Int)) (gS G) = _ from up_at]
                refine ⟨fun _ _ => ?_, fun c => absurd c (by decide), fun _ => ⟨?_, ?_⟩, fun c => absurd c (by decide), fun _ => ?_⟩
                · rw [h_N32, h_N29, h_N26, h_N23, h_N1]
                  show (va_up (va_up (va_up (va_up (va_up (va_up (va_up (va_up (va_up (M.2.1 324) (5 * gS G) 0) (5 * gS G + 1) 0) (5 * gS G + 2) 0) (5 * gS G + 3) 0) (5 * gS G + 4) 0) (5 * gS G) (kK T r_2.1)) (5 * gS G + 1) z_24) (5 * gS G + 2) z_27) (5 * gS G + 3) z_30) (5 * gS G) = _
                  repeat (first | rw [up_at] | rw [up_ne (by omega)])
                · rw [h_N32, h_N29, h_N26, h_N23, h_N1]
                  show (va_up (va_up (va_up (va_up (va_up (va_up (va_up (va_up (va_up (M.2.1 324) (5 * gS G) 0) (5 * gS G + 1) 0) (5 * gS G + 2) 0) (5 * gS G + 3) 0) (5 * gS G + 4) 0) (5 * gS G) (kK T r_2.1)) (5 * gS G + 1) z_24) (5 * gS G + 2) z_27) (5 * gS G + 3) z_30) (5 * gS G + 1) = _
                  repeat (first | rw [up_at] | rw [up_ne (by omega)])
                  exact v_z_24
                · rw [h_N32, h_N29, h_N26, h_N23, h_N1]
                  show (va_up (va_up (va_up (va_up (va_up (va_up (va_up (va_up (va_up (M.2.1 324) (5 * gS G) 0) (5 * gS G + 1) 0) (5 * gS G + 2) 0) (5 * gS G + 3) 0) (5 * gS G + 4) 0) (5 * gS G) (kK T r_2.1)) (5 * gS G + 1) z_24) (5 * gS G + 2) z_27) (5 * gS G + 3) z_30) (5 * gS G + 2) = _
                  repeat (first | rw [up_at] | rw [up_ne (by omega)])
                  exact v_z_27
                · rw [h_N32, h_N29, h_N26, h_N23, h_N1]
                  show (va_up (va_up (va_up (va_up (va_up (va_up (va_up (va_up (va_up (M.2.1 324) (5 * gS G) 0) (5 * gS G + 1) 0) (5 * gS G + 2) 0) (5 * gS G + 3) 0) (5 * gS G + 4) 0) (5 * gS G) (kK T r_2.1)) (5 * gS G + 1) z_24) (5 * gS G + 2) z_27) (5 * gS G + 3) z_30) (5 * gS G + 3) = _
                  repeat (first | rw [up_at] | rw [up_ne (by omega)])
                  exact v_z_30
          · refine r_aload0 (pc2 := 118) dX12_readPut_117 rfl ?_
            refine r_getR (pc2 := 121) dX12_readPut_118 rfl fX12_74 (hK_317 hS_N1) (hR_317_12 hS_N1) ?_
            refine r_iconst (pc2 := 122) dX12_readPut_121 rfl ?_
            refine r_iload1 (pc2 := 123) dX12_readPut_122 rfl ?_
            refine r_imul (c := ((5 * gS G : Nat) : Int)) (pc2 := 124) dX12_readPut_123 rfl (by omega) ?_
            refine r_iconst (pc2 := 125) dX12_readPut_124 rfl ?_
            refine r_iadd (c := (((5 * gS G : Nat) : Int) + 1)) (pc2 := 126) dX12_readPut_125 rfl rfl ?_
            refine r_aload0 (pc2 := 127) dX12_readPut_126 rfl ?_
            refine r_iconst (pc2 := 128) dX12_readPut_127 rfl ?_
            refine r_iconst (pc2 := 129) dX12_readPut_128 rfl ?_
            rw [mM_a]
            obtain ⟨r_33, e_r_33⟩ : ∃ x, x = av T r_2 := ⟨_, rfl⟩
            have q_r_33 : r_33 = (r_2.1 + 1, 0) := by rw [e_r_33, av_y z_r_2 l_r_2]
            rw [show ((r_2.1 + 1, r_2.2) : rdT) = r_33 from by rw [q_r_33, z_r_2]]
            have o_r_33 : rOk T r_33 := by rw [e_r_33]; exact o_r_2.a
            have z_r_33 : r_33.2 = 0 := by rw [q_r_33]
            have i_r_33 := o_r_33.2
            have t_r_33 := o_r_33.1
            rw [mM_o (by omega)]
            obtain ⟨N34, h_N34⟩ : ∃ x, x = pI N1 324 (5 * gS G) (kK T r_2.1) := ⟨_, rfl⟩
            rw [← h_N34]
            have p_N34 : frP N1 N34 := by rw [h_N34]; exact frP.rf.I (Or.inl (by decide))
            have hS_N34 : sOk N34.1 := p_N34.1.ok hS_N1
            have hC_N34 : mT N34 T := hC_N1.fp p_N34
            have hW_N34 : mWd N34 := hW_N1.fp p_N34
            refine r_cv2 (pc2 := 132) dX12_readPut_129 rfl vX12_204 (hK_317 hS_N34) (Nat.le_of_ble_eq_true rfl) (c_X12_takeNumber (d := d + 1) (M := N34) (r := r_33) (lo := 0) (hi := 3) hS_N34 hT hC_N34 o_r_33 ⟨by omega, by omega⟩ ⟨by omega, by omega⟩) ?_
            rintro _ M9 ⟨z_35, hz_z_35, rfl, h9, hv_z_35⟩
            obtain ⟨z_351, z_352⟩ := hz_z_35
            obtain ⟨r_36, e_r_36⟩ : ∃ x, x = rN T 0 3 r_33 := ⟨_, rfl⟩
            rw [← e_r_36] at h9
            rw [h9]
            have o_r_36 : rOk T r_36 := by rw [e_r_36]; exact o_r_33.N hT
            have i_r_36 := o_r_36.2
            have t_r_36 := o_r_36.1
            show Go (Ct (d + 3)) _ yX12_readPut cX12_readPut none 0 0 132 [some (.ref 317), some (.int (iI ((gS G : Nat) : Int))), some (.int (iI (kK T r_2.1))), some (.int (iI 17))] [.int (iI z_35), .int (iI (((5 * gS G : Nat) : Int) + 1)), .ref 324] (mM N34 r_36)
            refine r_iast (z := z_35) (pc2 := 133) dX12_readPut_132 rfl (hK_324 hS_N34) (by decide) (5 * gS G + 1) (by omega) (by omega) ?_
            refine r_goto (tgt := 159) dX12_readPut_133 (by decide) ?_
            refine r_aload0 (pc2 := 160) dX12_readPut_159 rfl ?_
            refine r_getR (pc2 := 163) dX12_readPut_160 rfl fX12_74 (hK_317 hS_N34) (hR_317_12 hS_N34) ?_
            refine r_iconst (pc2 := 164) dX12_readPut_163 rfl ?_
            refine r_iload1 (pc2 := 165) dX12_readPut_164 rfl ?_
            refine r_imul (c := ((5 * gS G : Nat) : Int)) (pc2 := 166) dX12_readPut_165 rfl (by omega) ?_
            refine r_iconst (pc2 := 167) dX12_readPut_166 rfl ?_
            refine r_iadd (c := (((5 * gS G : Nat) : Int) + 2)) (pc2 := 168) dX12_readPut_167 rfl rfl ?_
            refine r_aload0 (pc2 := 169) dX12_readPut_168 rfl ?_
            refine r_iconst (pc2 := 170) dX12_readPut_169 rfl ?_
            refine r_bipush (pc2 := 172) dX12_readPut_170 rfl (by decide) (by decide) ?_
            rw [mM_o (by omega)]
            obtain ⟨N37, h_N37⟩ : ∃ x, x = pI N34 324 (5 * gS G + 1) z_35 := ⟨_, rfl⟩
            rw [← h_N37]
            have p_N37 : frP N34 N37 := by rw [h_N37]; exact frP.rf.I (Or.inl (by decide))
            have hS_N37 : sOk N37.1 := p_N37.1.ok hS_N34
            have hC_N37 : mT N37 T := hC_N34.fp p_N37
            have hW_N37 : mWd N37 := hW_N34.fp p_N37
            refine r_cv2 (pc2 := 175) dX12_readPut_172 rfl vX12_204 (hK_317 hS_N37) (Nat.le_of_ble_eq_true rfl) (c_X12_takeNumber (d := d + 1) (M := N37) (r := r_36) (lo := 0) (hi := 12) hS_N37 hT hC_N37 o_r_36 ⟨by omega, by omega⟩ ⟨by omega, by omega⟩) ?_
            rintro _ M9 ⟨z_38, hz_z_38, rfl, h9, hv_z_38⟩
            obtain ⟨z_381, z_382⟩ := hz_z_38
            obtain ⟨r_39, e_r_39⟩ : ∃ x, x = rN T 0 12 r_36 := ⟨_, rfl⟩
            rw [← e_r_39] at h9
            rw [h9]
            have o_r_39 : rOk T r_39 := by rw [e_r_39]; exact o_r_36.N hT
            have i_r_39 := o_r_39.2
            have t_r_39 := o_r_39.1
            show Go (Ct (d + 3)) _ yX12_readPut cX12_readPut none 0 0 175 [some (.ref 317), some (.int (iI ((gS G : Nat) : Int))), some (.int (iI (kK T r_2.1))), some (.int (iI 17))] [.int (iI z_38), .int (iI (((5 * gS G : Nat) : Int) + 2)), .ref 324] (mM N37 r_39)
            refine r_iast (z := z_38) (pc2 := 176) dX12_readPut_175 rfl (hK_324 hS_N37) (by decide) (5 * gS G + 2) (by omega) (by omega) ?_
            refine r_aload0 (pc2 := 177) dX12_readPut_176 rfl ?_
            refine r_getR (pc2 := 180) dX12_readPut_177 rfl fX12_74 (hK_317 hS_N37) (hR_317_12 hS_N37) ?_
            refine r_iconst (pc2 := 181) dX12_readPut_180 rfl ?_
            refine r_iload1 (pc2 := 182) dX12_readPut_181 rfl ?_
            refine r_imul (c := ((5 * gS G : Nat) : Int)) (pc2 := 183) dX12_readPut_182 rfl (by omega) ?_
            refine r_iconst (pc2 := 184) dX12_readPut_183 rfl ?_
            refine r_iadd (c := (((5 * gS G : Nat) : Int) + 3)) (pc2 := 185) dX12_readPut_184 rfl rfl ?_
            refine r_aload0 (pc2 := 186) dX12_readPut_185 rfl ?_
            refine r_iconst (pc2 := 187) dX12_readPut_186 rfl ?_
            refine r_bipush (pc2 := 189) dX12_readPut_187 rfl (by decide) (by decide) ?_
            rw [mM_o (by omega)]
            obtain ⟨N40, h_N40⟩ : ∃ x, x = pI N37 324 (5 * gS G + 2) z_38 := ⟨_, rfl⟩
            rw [← h_N40]
            have p_N40 : frP N37 N40 := by rw [h_N40]; exact frP.rf.I (Or.inl (by decide))
            have hS_N40 : sOk N40.1 := p_N40.1.ok hS_N37
            have hC_N40 : mT N40 T := hC_N37.fp p_N40
            have hW_N40 : mWd N40 := hW_N37.fp p_N40
            refine r_cv2 (pc2 := 192) dX12_readPut_189 rfl vX12_204 (hK_317 hS_N40) (Nat.le_of_ble_eq_true rfl) (c_X12_takeNumber (d := d + 1) (M := N40) (r := r_39) (lo := 0) (hi := 11) hS_N40 hT hC_N40 o_r_39 ⟨by omega, by omega⟩ ⟨by omega, by omega⟩) ?_
            rintro _ M9 ⟨z_41, hz_z_41, rfl, h9, hv_z_41⟩
            obtain ⟨z_411, z_412⟩ := hz_z_41
            obtain ⟨r_42, e_r_42⟩ : ∃ x, x = rN T 0 11 r_39 := ⟨_, rfl⟩
            rw [← e_r_42] at h9
            rw [h9]
            have o_r_42 : rOk T r_42 := by rw [e_r_42]; exact o_r_39.N hT
            have i_r_42 := o_r_42.2
            have t_r_42 := o_r_42.1
            show Go (Ct (d + 3)) _ yX12_readPut cX12_readPut none 0 0 192 [some (.ref 317), some (.int (iI ((gS G : Nat) : Int))), some (.int (iI (kK T r_2.1))), some (.int (iI 17))] [.int (iI z_41), .int (iI (((5 * gS G : Nat) : Int) + 3)), .ref 324] (mM N40 r_42)
            refine r_iast (z := z_41) (pc2 := 193) dX12_readPut_192 rfl (hK_324 hS_N40) (by decide) (5 * gS G + 3) (by omega) (by omega) ?_
            refine r_ret dX12_readPut_193 rfl ?_
            rw [mM_o (by omega)]
            obtain ⟨N43, h_N43⟩ : ∃ x, x = pI N40 324 (5 * gS G + 3) z_41 := ⟨_, rfl⟩
            rw [← h_N43]
            have p_N43 : frP N40 N43 := by rw [h_N43]; exact frP.rf.I (Or.inl (by decide))
            have hS_N43 : sOk N43.1 := p_N43.1.ok hS_N40
            have hC_N43 : mT N43 T := hC_N40.fp p_N43
            have hW_N43 : mWd N43 := hW_N40.fp p_N43
            have c_49 : ¬ (kK T r_2.1 = 4 ∨ kK T r_2.1 = 9) := by omega
            have c_6 : kK T r_2.1 = 6 := by omega
            have c_m : (kK T r_2.1 = 4 ∨ kK T r_2.1 = 9 ∨ kK T r_2.1 = 6 ∨ kK T r_2.1 = 7) := by omega
            have hl : lPut T r G = (rK T 59 r_42, gLine G 10 (kK T r_2.1) ((kV T r_33.1 : Nat) : Int) ((kV T r_36.1 : Nat) : Int) ((kV T r_39.1 : Nat) : Int)) := by
              unfold lPut
              dsimp only
              rw [← e_r_2, if_pos c_rg, ← e_r_33, if_neg c_49, if_pos c_6, ← e_r_36, if_pos c_m, ← e_r_39, ← e_r_42]
            refine ⟨rfl, N43, r_42, rfl, (((((p_N1).tr p_N34).tr p_N37).tr p_N40).tr p_N43), o_r_42, by rw [hl], fun q => ?_⟩
            rw [hl]
            have f_r_42 := rN_0 (lo := 0) (hi := 11) hT o_r_39 (by rw [← e_r_42]; exact q)
            have v_z_41 := hv_z_41 (by rw [← e_r_42]; exact q)
            have f_r_39 := rN_0 (lo := 0) (hi := 12) hT o_r_36 (by rw [← e_r_39]; exact f_r_42.1)
            have v_z_38 := hv_z_38 (by rw [← e_r_39]; exact f_r_42.1)
            have f_r_36 := rN_0 (lo := 0) (hi := 3) hT o_r_33 (by rw [← e_r_36]; exact f_r_39.1)
            have v_z_35 := hv_z_35 (by rw [← e_r_36]; exact f_r_39.1)
            have f_r_33 : r_2.2 = 0 := z_r_2
            have f_r_2 : r.2 = 0 := z_r
            refine hG.line (a := 10) (by rw [h_N43, h_N40, h_N37, h_N34, h_N1]; rfl) (by rw [h_N43, h_N40, h_N37, h_N34, h_N1]; rfl) (by rw [h_N43, h_N40, h_N37, h_N34, h_N1]; rfl) (by rw [h_N43, h_N40, h_N37, h_N34, h_N1]; rfl) (fun j hj => ?_) (by rw [h_N43, h_N40, h_N37, h_N34, h_N1]; rfl) (by rw [h_N43, h_N40, h_N37, h_N34, h_N1]; rfl) ?_
            · rw [h_N43, h_N40, h_N37, h_N34, h_N1]
              show (va_up (va_up (va_up (va_up (va_up (va_up (va_up (va_up (va_up (M.2.1 324) (5 * gS G) 0) (5 * gS G + 1) 0) (5 * gS G + 2) 0) (5 * gS G + 3) 0) (5 * gS G + 4) 0) (5 * gS G) (kK T r_2.1)) (5 * gS G + 1) z_35) (5 * gS G + 2) z_38) (5 * gS G + 3) z_41) j = M.2.1 324 j
              repeat (first | rw [up_at] | rw [up_ne (by omega)])
            · unfold mArg
              rw [show gA (gLine G 10 (kK T r_2.1) ((kV T r_33.1 : Nat) : Int) ((kV T r_36.1 : Nat) : Int) ((kV T r_39.1 : Nat) : Int)) (gS G) = 10 from up_at, show g1 (gLine G 10 (kK T r_2.1) ((kV T r_33.1 : Nat) : Int) ((kV T r_36.1 : Nat) : Int) ((kV T r_39.1 : Nat) : Int)) (gS G) = _ from up_at, show g2 (gLine G 10 (kK T r_2.1) ((kV T r_33.1 : Nat) : Int) ((kV T r_36.1 : Nat) : Int) ((kV T r_39.1 : Nat) : Int)) (gS G) = _ from up_at, show g3 (gLine G 10 (kK T r_2.1) ((kV T r_33.1 : Nat) : Int) ((kV T r_36.1 : Nat) : Int) ((kV T r_39.1 : Nat) : Int)) (gS G) = _ from up_at, show g4 (gLine G 10 (kK T r_2.1) ((kV T r_33.1 : Nat) : Int) ((kV T r_36.1 : Nat) : Int) ((kV T r_39.1 : Nat) : Int)) (gS G) = _ from up_at]
              refine ⟨fun _ _ => ?_, fun c => absurd c (by decide), fun _ => ⟨?_, ?_⟩, fun c => absurd c (by decide), fun _ => ?_⟩
              · rw [h_N43, h_N40, h_N37, h_N34, h_N1]
                show (va_up (va_up (va_up (va_up (va_up (va_up (va_up (va_up (va_up (M.2.1 324) (5 * gS G) 0) (5 * gS G + 1) 0) (5 * gS G + 2) 0) (5 * gS G + 3) 0) (5 * gS G + 4) 0) (5 * gS G) (kK T r_2.1)) (5 * gS G + 1) z_35) (5 * gS G + 2) z_38) (5 * gS G + 3) z_41) (5 * gS G) = _
                repeat (first | rw [up_at] | rw [up_ne (by omega)])
              · rw [h_N43, h_N40, h_N37, h_N34, h_N1]
                show (va_up (va_up (va_up (va_up (va_up (va_up (va_up (va_up (va_up (M.2.1 324) (5 * gS G) 0) (5 * gS G + 1) 0) (5 * gS G + 2) 0) (5 * gS G + 3) 0) (5 * gS G + 4) 0) (5 * gS G) (kK T r_2.1)) (5 * gS G + 1) z_35) (5 * gS G + 2) z_38) (5 * gS G + 3) z_41) (5 * gS G + 1) = _
                repeat (first | rw [up_at] | rw [up_ne (by omega)])
                exact v_z_35
              · rw [h_N43, h_N40, h_N37, h_N34, h_N1]
                show (va_up (va_up (va_up (va_up (va_up (va_up (va_up (va_up (va_up (M.2.1 324) (5 * gS G) 0) (5 * gS G + 1) 0) (5 * gS G + 2) 0) (5 * gS G + 3) 0) (5 * gS G + 4) 0) (5 * gS G) (kK T r_2.1)) (5 * gS G + 1) z_35) (5 * gS G + 2) z_38) (5 * gS G + 3) z_41) (5 * gS G + 2) = _
                repeat (first | rw [up_at] | rw [up_ne (by omega)])
                exact v_z_38
              · rw [h_N43, h_N40, h_N37, h_N34, h_N1]
                show (va_up (va_up (va_up (va_up (va_up (va_up (va_up (va_up (va_up (M.2.1 324) (5 * gS G) 0) (5 * gS G + 1) 0) (5 * gS G + 2) 0) (5 * gS G + 3) 0) (5 * gS G + 4) 0) (5 * gS G) (kK T r_2.1)) (5 * gS G + 1) z_35) (5 * gS G + 2) z_38) (5 * gS G + 3) z_41) (5 * gS G + 3) = _
                repeat (first | rw [up_at] | rw [up_ne (by omega)])
                exact v_z_41
        · refine r_aload0 (pc2 := 93) dX12_readPut_92 rfl ?_
          refine r_getR (pc2 := 96) dX12_readPut_93 rfl fX12_74 (hK_317 hS_N1) (hR_317_12 hS_N1) ?_
          refine r_iconst (pc2 := 97) dX12_readPut_96 rfl ?_
          refine r_iload1 (pc2 := 98) dX12_readPut_97 rfl ?_
          refine r_imul (c := ((5 * gS G : Nat) : Int)) (pc2 := 99) dX12_readPut_98 rfl (by omega) ?_
          refine r_iconst (pc2 := 100) dX12_readPut_99 rfl ?_
          refine r_iadd (c := (((5 * gS G : Nat) : Int) + 1)) (pc2 := 101) dX12_readPut_100 rfl rfl ?_
          refine r_aload0 (pc2 := 102) dX12_readPut_101 rfl ?_
          refine r_iconst (pc2 := 103) dX12_readPut_102 rfl ?_
          refine r_iconst (pc2 := 104) dX12_readPut_103 rfl ?_
          rw [mM_a]
          obtain ⟨r_44, e_r_44⟩ : ∃ x, x = av T r_2 := ⟨_, rfl⟩
          have q_r_44 : r_44 = (r_2.1 + 1, 0) := by rw [e_r_44, av_y z_r_2 l_r_2]
          rw [show ((r_2.1 + 1, r_2.2) : rdT) = r_44 from by rw [q_r_44, z_r_2]]
          have o_r_44 : rOk T r_44 := by rw [e_r_44]; exact o_r_2.a
          have z_r_44 : r_44.2 = 0 := by rw [q_r_44]
          have i_r_44 := o_r_44.2
          have t_r_44 := o_r_44.1
          rw [mM_o (by omega)]
          obtain ⟨N45, h_N45⟩ : ∃ x, x = pI N1 324 (5 * gS G) (kK T r_2.1) := ⟨_, rfl⟩
          rw [← h_N45]
          have p_N45 : frP N1 N45 := by rw [h_N45]; exact frP.rf.I (Or.inl (by decide))
          have hS_N45 : sOk N45.1 := p_N45.1.ok hS_N1
          have hC_N45 : mT N45 T := hC_N1.fp p_N45
          have hW_N45 : mWd N45 := hW_N1.fp p_N45
          refine r_cv2 (pc2 := 107) dX12_readPut_104 rfl vX12_204 (hK_317 hS_N45) (Nat.le_of_ble_eq_true rfl) (c_X12_takeNumber (d := d + 1) (M := N45) (r := r_44) (lo := 0) (hi := 1) hS_N45 hT hC_N45 o_r_44 ⟨by omega, by omega⟩ ⟨by omega, by omega⟩) ?_
          rintro _ M9 ⟨z_46, hz_z_46, rfl, h9, hv_z_46⟩
          obtain ⟨z_461, z_462⟩ := hz_z_46
          obtain ⟨r_47, e_r_47⟩ : ∃ x, x = rN T 0 1 r_44 := ⟨_, rfl⟩
          rw [← e_r_47] at h9
          rw [h9]
          have o_r_47 : rOk T r_47 := by rw [e_r_47]; exact o_r_44.N hT
          have i_r_47 := o_r_47.2
          have t_r_47 := o_r_47.1
          show Go (Ct (d + 3)) _ yX12_readPut cX12_readPut none 0 0 107 [some (.ref 317), some (.int (iI ((gS G : Nat) : Int))), some (.int (iI (kK T r_2.1))), some (.int (iI 17))] [.int (iI z_46), .int (iI (((5 * gS G : Nat) : Int) + 1)), .ref 324] (mM N45 r_47)
          refine r_iast (z := z_46) (pc2 := 108) dX12_readPut_107 rfl (hK_324 hS_N45) (by decide) (5 * gS G + 1) (by omega) (by omega) ?_
          refine r_goto (tgt := 159) dX12_readPut_108 (by decide) ?_
          refine r_aload0 (pc2 := 160) dX12_readPut_159 rfl ?_
          refine r_getR (pc2 := 163) dX12_readPut_160 rfl fX12_74 (hK_317 hS_N45) (hR_317_12 hS_N45) ?_
          refine r_iconst (pc2 := 164) dX12_readPut_163 rfl ?_
          refine r_iload1 (pc2 := 165) dX12_readPut_164 rfl ?_
          refine r_imul (c := ((5 * gS G : Nat) : Int)) (pc2 := 166) dX12_readPut_165 rfl (by omega) ?_
          refine r_iconst (pc2 := 167) dX12_readPut_166 rfl ?_
          refine r_iadd (c := (((5 * gS G : Nat) : Int) + 2)) (pc2 := 168) dX12_readPut_167 rfl rfl ?_
          refine r_aload0 (pc2 := 169) dX12_readPut_168 rfl ?_
          refine r_iconst (pc2 := 170) dX12_readPut_169 rfl ?_
          refine r_bipush (pc2 := 172) dX12_readPut_170 rfl (by decide) (by decide) ?_
          rw [mM_o (by omega)]
          obtain ⟨N48, h_N48⟩ : ∃ x, x = pI N45 324 (5 * gS G + 1) z_46 := ⟨_, rfl⟩
          rw [← h_N48]
          have p_N48 : frP N45 N48 := by rw [h_N48]; exact frP.rf.I (Or.inl (by decide))
          have hS_N48 : sOk N48.1 := p_N48.1.ok hS_N45
          have hC_N48 : mT N48 T := hC_N45.fp p_N48
          have hW_N48 : mWd N48 := hW_N45.fp p_N48
          refine r_cv2 (pc2 := 175) dX12_readPut_172 rfl vX12_204 (hK_317 hS_N48) (Nat.le_of_ble_eq_true rfl) (c_X12_takeNumber (d := d + 1) (M := N48) (r := r_47) (lo := 0) (hi := 12) hS_N48 hT hC_N48 o_r_47 ⟨by omega, by omega⟩ ⟨by omega, by omega⟩) ?_
          rintro _ M9 ⟨z_49, hz_z_49, rfl, h9, hv_z_49⟩
          obtain ⟨z_491, z_492⟩ := hz_z_49
          obtain ⟨r_50, e_r_50⟩ : ∃ x, x = rN T 0 12 r_47 := ⟨_, rfl⟩
          rw [← e_r_50] at h9
          rw [h9]
          have o_r_50 : rOk T r_50 := by rw [e_r_50]; exact o_r_47.N hT
          have i_r_50 := o_r_50.2
          have t_r_50 := o_r_50.1
          show Go (Ct (d + 3)) _ yX12_readPut cX12_readPut none 0 0 175 [some (.ref 317), some (.int (iI ((gS G : Nat) : Int))), some (.int (iI (kK T r_2.1))), some (.int (iI 17))] [.int (iI z_49), .int (iI (((5 * gS G : Nat) : Int) + 2)), .ref 324] (mM N48 r_50)
          refine r_iast (z := z_49) (pc2 := 176) dX12_readPut_175 rfl (hK_324 hS_N48) (by decide) (5 * gS G + 2) (by omega) (by omega) ?_
          refine r_aload0 (pc2 := 177) dX12_readPut_176 rfl ?_
          refine r_getR (pc2 := 180) dX12_readPut_177 rfl fX12_74 (hK_317 hS_N48) (hR_317_12 hS_N48) ?_
          refine r_iconst (pc2 := 181) dX12_readPut_180 rfl ?_
          refine r_iload1 (pc2 := 182) dX12_readPut_181 rfl ?_
          refine r_imul (c := ((5 * gS G : Nat) : Int)) (pc2 := 183) dX12_readPut_182 rfl (by omega) ?_
          refine r_iconst (pc2 := 184) dX12_readPut_183 rfl ?_
          refine r_iadd (c := (((5 * gS G : Nat) : Int) + 3)) (pc2 := 185) dX12_readPut_184 rfl rfl ?_
          refine r_aload0 (pc2 := 186) dX12_readPut_185 rfl ?_
          refine r_iconst (pc2 := 187) dX12_readPut_186 rfl ?_
          refine r_bipush (pc2 := 189) dX12_readPut_187 rfl (by decide) (by decide) ?_
          rw [mM_o (by omega)]
          obtain ⟨N51, h_N51⟩ : ∃ x, x = pI N48 324 (5 * gS G + 2) z_49 := ⟨_, rfl⟩
          rw [← h_N51]
          have p_N51 : frP N48 N51 := by rw [h_N51]; exact frP.rf.I (Or.inl (by decide))
          have hS_N51 : sOk N51.1 := p_N51.1.ok hS_N48
          have hC_N51 : mT N51 T := hC_N48.fp p_N51
          have hW_N51 : mWd N51 := hW_N48.fp p_N51
          refine r_cv2 (pc2 := 192) dX12_readPut_189 rfl vX12_204 (hK_317 hS_N51) (Nat.le_of_ble_eq_true rfl) (c_X12_takeNumber (d := d + 1) (M := N51) (r := r_50) (lo := 0) (hi := 11) hS_N51 hT hC_N51 o_r_50 ⟨by omega, by omega⟩ ⟨by omega, by omega⟩) ?_
          rintro _ M9 ⟨z_52, hz_z_52, rfl, h9, hv_z_52⟩
          obtain ⟨z_521, z_522⟩ := hz_z_52
          obtain ⟨r_53, e_r_53⟩ : ∃ x, x = rN T 0 11 r_50 := ⟨_, rfl⟩
          rw [← e_r_53] at h9
          rw [h9]
          have o_r_53 : rOk T r_53 := by rw [e_r_53]; exact o_r_50.N hT
          have i_r_53 := o_r_53.2
          have t_r_53 := o_r_53.1
          show Go (Ct (d + 3)) _ yX12_readPut cX12_readPut none 0 0 192 [some (.ref 317), some (.int (iI ((gS G : Nat) : Int))), some (.int (iI (kK T r_2.1))), some (.int (iI 17))] [.int (iI z_52), .int (iI (((5 * gS G : Nat) : Int) + 3)), .ref 324] (mM N51 r_53)
          refine r_iast (z := z_52) (pc2 := 193) dX12_readPut_192 rfl (hK_324 hS_N51) (by decide) (5 * gS G + 3) (by omega) (by omega) ?_
          refine r_ret dX12_readPut_193 rfl ?_
          rw [mM_o (by omega)]
          obtain ⟨N54, h_N54⟩ : ∃ x, x = pI N51 324 (5 * gS G + 3) z_52 := ⟨_, rfl⟩
          rw [← h_N54]
          have p_N54 : frP N51 N54 := by rw [h_N54]; exact frP.rf.I (Or.inl (by decide))
          have hS_N54 : sOk N54.1 := p_N54.1.ok hS_N51
          have hC_N54 : mT N54 T := hC_N51.fp p_N54
          have hW_N54 : mWd N54 := hW_N51.fp p_N54
          have c_49 : (kK T r_2.1 = 4 ∨ kK T r_2.1 = 9) := by omega
          have c_m : (kK T r_2.1 = 4 ∨ kK T r_2.1 = 9 ∨ kK T r_2.1 = 6 ∨ kK T r_2.1 = 7) := by omega
          have hl : lPut T r G = (rK T 59 r_53, gLine G 10 (kK T r_2.1) ((kV T r_44.1 : Nat) : Int) ((kV T r_47.1 : Nat) : Int) ((kV T r_50.1 : Nat) : Int)) := by
            unfold lPut
            dsimp only
            rw [← e_r_2, if_pos c_rg, ← e_r_44, if_pos c_49, ← e_r_47, if_pos c_m, ← e_r_50, ← e_r_53]
          refine ⟨rfl, N54, r_53, rfl, (((((p_N1).tr p_N45).tr p_N48).tr p_N51).tr p_N54), o_r_53, by rw [hl], fun q => ?_⟩
          rw [hl]
          have f_r_53 := rN_0 (lo := 0) (hi := 11) hT o_r_50 (by rw [← e_r_53]; exact q)
          have v_z_52 := hv_z_52 (by rw [← e_r_53]; exact q)
          have f_r_50 := rN_0 (lo := 0) (hi := 12) hT o_r_47 (by rw [← e_r_50]; exact f_r_53.1)
          have v_z_49 := hv_z_49 (by rw [← e_r_50]; exact f_r_53.1)
          have f_r_47 := rN_0 (lo := 0) (hi := 1) hT o_r_44 (by rw [← e_r_47]; exact f_r_50.1)
          have v_z_46 := hv_z_46 (by rw [← e_r_47]; exact f_r_50.1)
          have f_r_44 : r_2.2 = 0 := z_r_2
          have f_r_2 : r.2 = 0 := z_r
          refine hG.line (a := 10) (by rw [h_N54, h_N51, h_N48, h_N45, h_N1]; rfl) (by rw [h_N54, h_N51, h_N48, h_N45, h_N1]; rfl) (by rw [h_N54, h_N51, h_N48, h_N45, h_N1]; rfl) (by rw [h_N54, h_N51, h_N48, h_N45, h_N1]; rfl) (fun j hj => ?_) (by rw [h_N54, h_N51, h_N48, h_N45, h_N1]; rfl) (by rw [h_N54, h_N51, h_N48, h_N45, h_N1]; rfl) ?_
          · rw [h_N54, h_N51, h_N48, h_N45, h_N1]
            show (va_up (va_up (va_up (va_up (va_up (va_up (va_up (va_up (va_up (M.2.1 324) (5 * gS G) 0) (5 * gS G + 1) 0) (5 * gS G + 2) 0) (5 * gS G + 3) 0) (5 * gS G + 4) 0) (5 * gS G) (kK T r_2.1)) (5 * gS G + 1) z_46) (5 * gS G + 2) z_49) (5 * gS G + 3) z_52) j = M.2.1 324 j
            repeat (first | rw [up_at] | rw [up_ne (by omega)])
          · unfold mArg
            rw [show gA (gLine G 10 (kK T r_2.1) ((kV T r_44.1 : Nat) : Int) ((kV T r_47.1 : Nat) : Int) ((kV T r_50.1 : Nat) : Int)) (gS G) = 10 from up_at, show g1 (gLine G 10 (kK T r_2.1) ((kV T r_44.1 : Nat) : Int) ((kV T r_47.1 : Nat) : Int) ((kV T r_50.1 : Nat) : Int)) (gS G) = _ from up_at, show g2 (gLine G 10 (kK T r_2.1) ((kV T r_44.1 : Nat) : Int) ((kV T r_47.1 : Nat) : Int) ((kV T r_50.1 : Nat) : Int)) (gS G) = _ from up_at, show g3 (gLine G 10 (kK T r_2.1) ((kV T r_44.1 : Nat) : Int) ((kV T r_47.1 : Nat) : Int) ((kV T r_50.1 : Nat) : Int)) (gS G) = _ from up_at, show g4 (gLine G 10 (kK T r_2.1) ((kV T r_44.1 : Nat) : Int) ((kV T r_47.1 : Nat) : Int) ((kV T r_50.1 : Nat) : Int)) (gS G) = _ from up_at]
            refine ⟨fun _ _ => ?_, fun c => absurd c (by decide), fun _ => ⟨?_, ?_⟩, fun c => absurd c (by decide), fun _ => ?_⟩
            · rw [h_N54, h_N51, h_N48, h_N45, h_N1]
              show (va_up (va_up (va_up (va_up (va_up (va_up (va_up (va_up (va_up (M.2.1 324) (5 * gS G) 0) (5 * gS G + 1) 0) (5 * gS G + 2) 0) (5 * gS G + 3) 0) (5 * gS G + 4) 0) (5 * gS G) (kK T r_2.1)) (5 * gS G + 1) z_46) (5 * gS G + 2) z_49) (5 * gS G + 3) z_52) (5 * gS G) = _
              repeat (first | rw [up_at] | rw [up_ne (by omega)])
            · rw [h_N54, h_N51, h_N48, h_N45, h_N1]
              show (va_up (va_up (va_up (va_up (va_up (va_up (va_up (va_up (va_up (M.2.1 324) (5 * gS G) 0) (5 * gS G + 1) 0) (5 * gS G + 2) 0) (5 * gS G + 3) 0) (5 * gS G + 4) 0) (5 * gS G) (kK T r_2.1)) (5 * gS G + 1) z_46) (5 * gS G + 2) z_49) (5 * gS G + 3) z_52) (5 * gS G + 1) = _
              repeat (first | rw [up_at] | rw [up_ne (by omega)])
              exact v_z_46
            · rw [h_N54, h_N51, h_N48, h_N45, h_N1]
              show (va_up (va_up (va_up (va_up (va_up (va_up (va_up (va_up (va_up (M.2.1 324) (5 * gS G) 0) (5 * gS G + 1) 0) (5 * gS G + 2) 0) (5 * gS G + 3) 0) (5 * gS G + 4) 0) (5 * gS G) (kK T r_2.1)) (5 * gS G + 1) z_46) (5 * gS G + 2) z_49) (5 * gS G + 3) z_52) (5 * gS G + 2) = _
              repeat (first | rw [up_at] | rw [up_ne (by omega)])
              exact v_z_49
            · rw [h_N54, h_N51, h_N48, h_N45, h_N1]
              show (va_up (va_up (va_up (va_up (va_up (va_up (va_up (va_up (va_up (M.2.1 324) (5 * gS G) 0) (5 * gS G + 1) 0) (5 * gS G + 2) 0) (5 * gS G + 3) 0) (5 * gS G + 4) 0) (5 * gS G) (kK T r_2.1)) (5 * gS G + 1) z_46) (5 * gS G + 2) z_49) (5 * gS G + 3) z_52) (5 * gS G + 3) = _
              repeat (first | rw [up_at] | rw [up_ne (by omega)])
              exact v_z_52
    · refine r_aload0 (pc2 := 57) dX12_readPut_56 rfl ?_
      refine r_iconst (pc2 := 58) dX12_readPut_57 rfl ?_
      refine r_cv1 (pc2 := 61) dX12_readPut_58 rfl vX12_188 (hK_317 hS_N1) (by decide) (c_X12_wrong (d := d + 2) (M := N1) (r := r_2) (w := 1) hS_N1 hT hC_N1 o_r_2 (by omega)) ?_
      rintro _ M9 ⟨rfl, h9⟩
      obtain ⟨r_55, e_r_55⟩ : ∃ x, x = fl T 1 r_2 := ⟨_, rfl⟩
      rw [← e_r_55] at h9
      rw [h9]
      have o_r_55 : rOk T r_55 := by rw [e_r_55]; exact o_r_2.f hT (by omega) (by omega)
      have i_r_55 := o_r_55.2
      have t_r_55 := o_r_55.1
      show Go (Ct (d + 3)) _ yX12_readPut cX12_readPut none 0 0 61 [some (.ref 317), some (.int (iI ((gS G : Nat) : Int))), some (.int (iI (kK T r_2.1))), some (.int (iI 17))] [] (mM N1 r_55)
      refine r_ret dX12_readPut_61 rfl ?_
      exact absurd b_53 (by omega)
  · rw [if_neg c_rg]
    refine r_iload2 (pc2 := 53) dX12_readPut_52 rfl ?_
    refine r_ifne (tgt := 62) (pc2 := 56) dX12_readPut_53 rfl (by decide) ⟨by omega, by omega⟩ (fun h9 => absurd h9 (by decide)) (fun _ => ?_)
    refine r_aload0 (pc2 := 57) dX12_readPut_56 rfl ?_
    refine r_iconst (pc2 := 58) dX12_readPut_57 rfl ?_
    refine r_cv1 (pc2 := 61) dX12_readPut_58 rfl vX12_188 (hK_317 hS_N1) (by decide) (c_X12_wrong (d := d + 2) (M := N1) (r := r_2) (w := 1) hS_N1 hT hC_N1 o_r_2 (by omega)) ?_
    rintro _ M9 ⟨rfl, h9⟩
    obtain ⟨r_56, e_r_56⟩ : ∃ x, x = fl T 1 r_2 := ⟨_, rfl⟩
    rw [← e_r_56] at h9
    rw [h9]
    have o_r_56 : rOk T r_56 := by rw [e_r_56]; exact o_r_2.f hT (by omega) (by omega)
    have i_r_56 := o_r_56.2
    have t_r_56 := o_r_56.1
    show Go (Ct (d + 3)) _ yX12_readPut cX12_readPut none 0 0 61 [some (.ref 317), some (.int (iI ((gS G : Nat) : Int))), some (.int (iI 0)), some (.int (iI 17))] [] (mM N1 r_56)
    refine r_ret dX12_readPut_61 rfl ?_
    have z9 : ¬ r_56.2 = 0 := by rw [e_r_56]; exact fl_f (by omega) i_r_2.1
    have hl : (lPut T r G).1 = r_56 := by
      unfold lPut
      dsimp only
      rw [← e_r_2, if_neg c_rg, ← e_r_56, av_n z9]
      have hz3 : (if kK T r_2.1 = 4 ∨ kK T r_2.1 = 9 then rN T 0 1 r_56 else if kK T r_2.1 = 6 then rN T 0 3 r_56 else if kK T r_2.1 = 7 then rN T 2 9 r_56 else r_56) = r_56 := by (repeat' split) <;> first | exact rN_n z9 | rfl
      rw [hz3, rN_n z9, rN_n z9, rK_n z9]
    refine ⟨rfl, N1, r_56, rfl, (p_N1), o_r_56, ?_, fun q => absurd q z9⟩
    rw [hl, rK_n z9]
