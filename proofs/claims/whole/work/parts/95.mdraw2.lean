/-! the model's draw as a whole -/
noncomputable def dwR (s : Nat → Int) (L : Nat) (X : bS) : qS := PTq (rdF s L).2 X.1 X.2
noncomputable def dwV (s : Nat → Int) (L : Nat) (X : bS) : Int := if (rdF s L).1.2 = 0 then -(dwR s L X).2.2.2.2 else (rdF s L).1.2
/-- what the reading leaves -/
theorem rdg {s : Nat → Int} {L j : Nat} {y : pS2} {M3 : pM} (hL : L ≤ 1000) (h1 : stn (txT s L) j ((0, 0), gG0) y) (h4 : y.1.2 = 0 → MG M3 y.2 ∧ sst gG0 y.2 ∧ ¬ lst (txT s L) y) :
    (¬ y.1.2 = 0 → rdF s L = y) ∧ (y.1.2 = 0 → kK (txT s L) y.1.1 = 22 → rdF s L = y ∧ MG M3 (rdF s L).2) ∧ (y.1.2 = 0 → ¬ kK (txT s L) y.1.1 = 22 → (rdF s L).1 = fl (txT s L) 1 y.1 ∧ ¬ (fl (txT s L) 1 y.1).2 = 0) ∧ rOk (txT s L) y.1 := by
  have hT : tOk (txT s L) := tok_TOK hL
  have hy := (stn_st hT rSt_0 h1).1
  obtain ⟨r, G⟩ := y
  refine ⟨fun q => rdF_of hL h1 (Or.inl q), fun q k => ?_, fun q k => ?_, hy.1⟩
  · have h9 := h4 q
    have hD : gD G = 0 := h9.2.1.1
    have e := rdF_of hL h1 (Or.inr ⟨k, hD⟩)
    exact ⟨e, by rw [e]; exact h9.1⟩
  · have h9 := h4 q
    have hD : gD G = 0 := h9.2.1.1
    have hr := hy.1.2.1
    have e1 := pst_no hr hD h9.2.2 k
    have hf : ¬ (fl (txT s L) 1 r).2 = 0 := fl_f (by omega) hr
    have h2 : stn (txT s L) (j + 1) ((0, 0), gG0) (pst (txT s L) (r, G)) := stn_tr h1 (show stn (txT s L) 1 (r, G) _ from ⟨nrd q (Or.inl k), rfl⟩)
    have e := rdF_of hL h2 (Or.inl (by rw [e1]; exact hf))
    exact ⟨by rw [e]; exact e1, hf⟩
def frD (M M2 : pM) : Prop := fr [317, 319, 320, 321, 323, 324, 325, 326, 327, 328, 329, 330, 331, 332, 333, 334] M M2 ∧ (∀ j, j ∉ [0, 2, 3, 7, 8, 10, 14, 24, 25, 26, 27, 28] → M2.2.1 317 j = M.2.1 317 j) ∧ M2.2.1 317 0 = 0 ∧ M2.2.1 317 2 = 0
def DWq (s : Nat → Int) (L k : Nat) (B : Nat → bS) (M M2 : pM) : Prop := frD M M2 ∧
  (¬ (rdF s L).1.2 = 0 → MB M2 B ∧ M2.2.1 317 27 = M.2.1 317 27 ∧ M2.2.1 317 28 = M.2.1 317 28) ∧
  ((rdF s L).1.2 = 0 → ¬ (dwR s L (B 0)).2.2.2.2 = 0 → MB M2 (va_up B 25 (B 0)) ∧ M2.2.1 317 27 = M.2.1 317 27 ∧ M2.2.1 317 28 = M.2.1 317 28) ∧
  ((rdF s L).1.2 = 0 → (dwR s L (B 0)).2.2.2.2 = 0 → MB M2 (keB k (va_up (va_up B 25 (B 0)) 0 ((dwR s L (B 0)).1, (dwR s L (B 0)).2.1))) ∧ M2.2.1 317 27 = (((dwR s L (B 0)).2.2.2.1 : Nat) : Int) ∧ M2.2.1 317 28 = ((keN k : Nat) : Int))
set_option maxHeartbeats 4000000 in
theorem c_X12_draw {d : Nat} {M : pM} {L k : Nat} {s : Nat → Int} {B : Nat → bS} (hS : sOk M.1) (hW : mWd M) (hL : L ≤ 1000) (hl : M.2.1 317 2 = (L : Int)) (hs : ∀ j, j < L → M.2.1 318 j = s j ∧ 0 ≤ s j ∧ s j ≤ 126) (hB : MB M B) (hD : bOk (B 0).1) (hk : bK (B 0).1 (B 0).2) (hk1 : M.2.1 317 28 = (k : Int)) (hk2 : k ≤ 20) : Ct (d + 332) 0 0 yX12_draw [.ref 317] M (fun v M2 => v = some (.int (iI (dwV s L (B 0)))) ∧ DWq s L k B M M2) := by
  refine ct_in (d := (d + 331)) kX12_draw rfl (by decide) (Nat.le_of_ble_eq_true rfl) (by decide) ?_
  show Go (Ct (d + 331)) _ yX12_draw cX12_draw (some .int) 0 0 0 [some (.ref 317)] [] M
  refine r_aload0 (pc2 := 1) dX12_draw_0 rfl ?_
  refine r_iconst (pc2 := 2) dX12_draw_1 rfl ?_
  refine r_putI (z := 0) (pc2 := 5) dX12_draw_2 rfl fX12_1 (w12_0 _) (hK_317 hS) (by decide) ?_
  refine r_aload0 (pc2 := 6) dX12_draw_5 rfl ?_
  refine r_cv0 (pc2 := 9) dX12_draw_6 rfl vX12_253 (hK_317 hS) (by decide) (c_X12_cutAll (d := d + 328) (M := pI M 317 0 0) (L := L) (s := s) hS hL (by rw [pI_nk (by decide)]; exact hl) (fun j hj => by rw [pI_ne (by decide)]; exact hs j hj)) ?_
  rintro _ M1 ⟨rfl, f1, e1, t1⟩
  have hS1 := f1.ok hS
  show Go (Ct (d + 331)) _ yX12_draw cX12_draw (some .int) 0 0 9 [some (.ref 317)] [] M1
  refine r_aload0 (pc2 := 10) dX12_draw_9 rfl ?_
  refine r_iconst (pc2 := 11) dX12_draw_10 rfl ?_
  refine r_putI (z := 0) (pc2 := 14) dX12_draw_11 rfl fX12_198 (w12_10 _) (hK_317 hS1) (by decide) ?_
  refine r_aload0 (pc2 := 15) dX12_draw_14 rfl ?_
  refine r_iconst (pc2 := 16) dX12_draw_15 rfl ?_
  refine r_putI (z := 0) (pc2 := 19) dX12_draw_16 rfl fX12_208 (w12_14 _) (hK_317 hS1) (by decide) ?_
  refine r_aload0 (pc2 := 20) dX12_draw_19 rfl ?_
  refine r_iconst (pc2 := 21) dX12_draw_20 rfl ?_
  refine r_iconst (pc2 := 22) dX12_draw_21 rfl ?_
  obtain ⟨M2, h2⟩ : ∃ M2, M2 = pI (pI M1 317 10 0) 317 14 0 := ⟨_, rfl⟩
  rw [← h2]
  have f2 : fr [317] M1 M2 := by rw [h2]; exact (fr.rf.I (by decide)).I (by decide)
  have hS2 := f2.ok hS1
  have g2 : ∀ j, j ≠ 10 → j ≠ 14 → M2.2.1 317 j = M1.2.1 317 j := fun j j1 j2 => by rw [h2, pI_nk j2, pI_nk j1]
  have e7 : M1.2.1 317 7 = 0 := by rw [e1, up_ne (by decide), up_at]
  have e8 : M1.2.1 317 8 = 0 := by rw [e1, up_at]
  have em : mM M2 (0, 0) = M2 := mM_id (by rw [g2 7 (by decide) (by decide)]; exact e7) (by rw [g2 8 (by decide) (by decide)]; exact e8)
  have hT : tOk (txT s L) := tok_TOK hL
  have hC2 : mT M2 (txT s L) := ⟨fun i hi => by rw [f2.i (by decide), f2.i (by decide)]; exact t1.1 i hi, fun i hi q => by rw [f2.j (by decide)]; exact t1.2.1 i hi q, fun i hi q => by rw [f2.j (by decide)]; exact t1.2.2.1 i hi q, fun i hi q => by rw [f2.j (by decide)]; exact t1.2.2.2 i hi q⟩
  have hW2 : mWd M2 := fun w hw => by rw [f2.j (by decide), f1.j (by decide)]; exact hW w hw
  have hG2 : MG M2 gG0 := ⟨by rw [h2, pI_nk (by decide), pI_at]; rfl, by rw [h2, pI_at]; rfl, fun i hi => absurd (show i < 0 from hi) (by omega), fun i hi => absurd (show i < 0 from hi) (by omega)⟩
  have h9 := rl_5 (d + 315) M2 (txT s L) (0, 0) gG0 ⟨hS2, hT, hC2, hW2, rSt_0, rfl, hG2⟩ rfl
  rw [em, show nst gG0 = 0 from rfl, if_pos (show gD gG0 = 0 from rfl)] at h9
  refine r_cv2 (pc2 := 25) dX12_draw_22 rfl vX12_239 (hK_317 hS2) (by decide) h9 ?_
  rintro _ M9 ⟨rfl, j, y, M3, s1, s2, s3, s4⟩
  rw [s2]
  have hS3 : sOk M3.1 := s3.1.ok hS2
  have hrd := rdg (M3 := M3) hL s1 s4
  obtain ⟨ry, Gy⟩ := y
  have o_r : rOk (txT s L) ry := hrd.2.2.2
  have i_r := o_r.2
  have hC3 : mT M3 (txT s L) := hC2.fp s3
  have so9 := mSo_r (k := kK (txT s L) ry.1)
  have hT1 := hT.1
  have t_r := o_r.1
  have f3 : fr [317, 319, 320, 321, 323, 324, 325, 326, 327] M M3 := (((fr.rf.I (by decide)).tr (f1.mono (by decide))).tr (f2.mono (by decide))).tr (s3.1.mono (by decide))
  have f3a : ∀ j, j ∉ [0, 2, 3, 7, 8, 10, 14] → M3.2.1 317 j = M.2.1 317 j := fun j hj => by
    simp only [List.mem_cons, List.not_mem_nil, or_false] at hj
    rw [s3.2 j (by simp only [List.mem_cons, List.not_mem_nil, or_false]; omega), g2 j (by omega) (by omega), e1, up_ne (by omega), up_ne (by omega), up_ne (by omega), up_ne (by omega), pI_nk (by omega)]
  have f30 : M3.2.1 317 0 = 0 := by rw [s3.2 0 (by decide), g2 0 (by decide) (by decide), e1, up_ne (by decide), up_ne (by decide), up_ne (by decide), up_ne (by decide), pI_at]
  have f32 : M3.2.1 317 2 = 0 := by rw [s3.2 2 (by decide), g2 2 (by decide) (by decide), e1, up_ne (by decide), up_ne (by decide), up_at]
  have hB3 : MB M3 B := hB.ofl f3 (by decide)
  show Go (Ct (d + 331)) _ yX12_draw cX12_draw (some .int) 0 0 25 [some (.ref 317)] [] (mM M3 ry)
  refine r_aload0 (pc2 := 26) dX12_draw_25 rfl ?_
  refine r_getI (z := ry.2) (pc2 := 29) dX12_draw_26 rfl (Or.inl fX12_182) (hK_317 hS3) rfl ?_
  refine r_ifne (tgt := 49) (pc2 := 32) dX12_draw_29 rfl (by decide) ⟨by omega, by omega⟩ (fun b_29 => ?_) (fun b_29 => ?_)
  · refine r_aload0 (pc2 := 50) dX12_draw_49 rfl ?_
    refine r_getI (z := ry.2) (pc2 := 53) dX12_draw_50 rfl (Or.inl fX12_182) (hK_317 hS3) rfl ?_
    refine r_ifle (tgt := 61) (pc2 := 56) dX12_draw_53 rfl (by decide) ⟨by omega, by omega⟩ (fun b_53 => ?_) (fun b_53 => ?_)
    · exact absurd b_53 (by omega)
    · refine r_aload0 (pc2 := 57) dX12_draw_56 rfl ?_
      refine r_getI (z := ry.2) (pc2 := 60) dX12_draw_57 rfl (Or.inl fX12_182) (hK_317 hS3) rfl ?_
      refine r_ireti dX12_draw_60 rfl ?_
      have eF : (rdF s L).1 = ry := by rw [hrd.1 b_29]
      refine ⟨?_, ⟨⟨((f3.I (by decide)).I (by decide)).mono (by decide), fun j hj => ?_, ?_, ?_⟩, fun _ => ⟨hB3.ofl ((fr.rf.I (show 317 ∈ [317] by decide)).I (by decide)) (by decide), ?_, ?_⟩, fun q => absurd q (by rw [eF]; omega), fun q => absurd q (by rw [eF]; omega)⟩⟩
      · unfold dwV; rw [eF, if_neg (by omega)]
      · simp only [List.mem_cons, List.not_mem_nil, or_false] at hj
        show (pI (pI M3 317 7 _) 317 8 _).2.1 317 j = _
        rw [pI_nk (by omega), pI_nk (by omega)]; exact f3a j (by simp only [List.mem_cons, List.not_mem_nil, or_false]; omega)
      · exact f30
      · exact f32
      · exact f3a 27 (by decide)
      · exact f3a 28 (by decide)
  · refine r_aload0 (pc2 := 33) dX12_draw_32 rfl ?_
    refine r_getR (pc2 := 36) dX12_draw_33 rfl fX12_24 (hK_317 hS3) (hR_317_4 hS3) ?_
    refine r_aload0 (pc2 := 37) dX12_draw_36 rfl ?_
    refine r_getI (z := ((ry.1 : Nat) : Int)) (pc2 := 40) dX12_draw_37 rfl (Or.inl fX12_179) (hK_317 hS3) rfl ?_
    refine r_iald (z := (mSo (kK (txT s L) ry.1))) (pc2 := 41) dX12_draw_40 rfl (hK_319 hS3) (ry.1) rfl (by omega) (by rw [mM_c (by decide)]; exact (hC3.1 ry.1 o_r.1).1) ?_
    refine r_ifeq (tgt := 49) (pc2 := 44) dX12_draw_41 rfl (by decide) ⟨by omega, by omega⟩ (fun b_41 => ?_) (fun b_41 => ?_)
    · refine r_aload0 (pc2 := 50) dX12_draw_49 rfl ?_
      refine r_getI (z := ry.2) (pc2 := 53) dX12_draw_50 rfl (Or.inl fX12_182) (hK_317 hS3) rfl ?_
      refine r_ifle (tgt := 61) (pc2 := 56) dX12_draw_53 rfl (by decide) ⟨by omega, by omega⟩ (fun b_53 => ?_) (fun b_53 => ?_)
      · have k22 : kK (txT s L) ry.1 = 22 := by unfold mSo at b_41; revert b_41; (repeat' split) <;> omega
        have h22 := hrd.2.1 (by omega) k22
        obtain ⟨eF, hG3⟩ := h22
        obtain ⟨⟨u, ns, hP⟩, -⟩ := (rdF_st (s := s) hL).1.2 (by rw [eF]; show ry.2 = 0; omega)
        obtain ⟨G, eG⟩ : ∃ G, G = (rdF s L).2 := ⟨_, rfl⟩
        rw [← eG] at hP hG3
        have hF0 : (rdF s L).1.2 = 0 := by rw [eF]; show ry.2 = 0; omega
        have hDD : gD G = 0 := by rcases (rdF_st (s := s) hL).2 with q | q; exact absurd hF0 q; rw [eG]; exact q.2
        obtain ⟨M4, h4⟩ : ∃ M4, M4 = mM M3 ry := ⟨_, rfl⟩
        rw [← h4]
        have hS4 : sOk M4.1 := by rw [h4]; exact hS3
        have f4 : fr [317] M3 M4 := by rw [h4]; exact (fr.rf.I (by decide)).I (by decide)
        have g4 : ∀ j, j ≠ 7 → j ≠ 8 → M4.2.1 317 j = M3.2.1 317 j := fun j j1 j2 => by rw [h4]; show (pI (pI M3 317 7 _) 317 8 _).2.1 317 j = _; rw [pI_nk j2, pI_nk j1]
        have hB4 : MB M4 B := hB3.ofl f4 (by decide)
        refine r_aload0 (pc2 := 62) dX12_draw_61 rfl ?_
        refine r_iconst (pc2 := 63) dX12_draw_62 rfl ?_
        refine r_bipush (pc2 := 65) dX12_draw_63 rfl (by decide) (by decide) ?_
        refine r_cv2 (pc2 := 68) dX12_draw_65 rfl vX12_256 (hK_317 hS4) (by decide) (c_X12_copies (d := d + 330) (s := 0) (t := 25) hS4 (by decide) (by decide)) ?_
        rintro _ M5 ⟨rfl, h5⟩
        have hS5 := h5.1.ok hS4
        have hB5 := hB4.cp (by decide) h5
        show Go (Ct (d + 331)) _ yX12_draw cX12_draw (some .int) 0 0 68 [some (.ref 317)] [] M5
        refine r_aload0 (pc2 := 69) dX12_draw_68 rfl ?_
        refine r_iconst (pc2 := 70) dX12_draw_69 rfl ?_
        refine r_putI (z := 0) (pc2 := 73) dX12_draw_70 rfl fX12_260 (w12_24 _) (hK_317 hS5) (by decide) ?_
        refine r_aload0 (pc2 := 74) dX12_draw_73 rfl ?_
        refine r_iconst (pc2 := 75) dX12_draw_74 rfl ?_
        refine r_putI (z := 0) (pc2 := 78) dX12_draw_75 rfl fX12_263 (w12_25 _) (hK_317 hS5) (by decide) ?_
        refine r_aload0 (pc2 := 79) dX12_draw_78 rfl ?_
        refine r_iconst (pc2 := 80) dX12_draw_79 rfl ?_
        refine r_putI (z := 0) (pc2 := 83) dX12_draw_80 rfl fX12_266 (w12_26 _) (hK_317 hS5) (by decide) ?_
        refine r_aload0 (pc2 := 84) dX12_draw_83 rfl ?_
        refine r_iconst (pc2 := 85) dX12_draw_84 rfl ?_
        refine r_aload0 (pc2 := 86) dX12_draw_85 rfl ?_
        refine r_getI (z := ((gS G : Nat) : Int)) (pc2 := 89) dX12_draw_86 rfl (Or.inl fX12_198) (hK_317 hS5) (by show M5.2.1 317 10 = _; rw [h5.1.i (by decide), g4 10 (by decide) (by decide)]; exact hG3.1) ?_
        refine r_iconst (pc2 := 90) dX12_draw_89 rfl ?_
        refine r_iconst (pc2 := 91) dX12_draw_90 rfl ?_
        refine r_iconst (pc2 := 92) dX12_draw_91 rfl ?_
        obtain ⟨M6, h6⟩ : ∃ M6, M6 = pI (pI (pI M5 317 24 0) 317 25 0) 317 26 0 := ⟨_, rfl⟩
        rw [← h6]
        have f6 : fr [317] M5 M6 := by rw [h6]; exact ((fr.rf.I (by decide)).I (by decide)).I (by decide)
        have hS6 := f6.ok hS5
        have hB6 := hB5.ofl f6 (by decide)
        have g6 : ∀ j, j ∉ [7, 8, 24, 25, 26] → M6.2.1 317 j = M3.2.1 317 j := fun j hj => by
          simp only [List.mem_cons, List.not_mem_nil, or_false] at hj
          rw [h6, pI_nk (by omega), pI_nk (by omega), pI_nk (by omega), h5.1.i (by decide), g4 j (by omega) (by omega)]
        have hG6 : MG M6 G := by
          obtain ⟨m1, m2, m3, m4⟩ := hG3
          have e9 : ∀ a, 323 ≤ a → a ≤ 327 → M6.2.1 a = M3.2.1 a ∧ M6.2.2 a = M3.2.2 a := fun a a1 a2 => ⟨by rw [f6.i (by simp; omega), h5.1.i (by simp; omega), f4.i (by simp; omega)], by rw [f6.j (by simp; omega), h5.1.j (by simp; omega), f4.j (by simp; omega)]⟩
          unfold MG mArg
          rw [g6 10 (by decide), g6 14 (by decide), (e9 323 (by omega) (by omega)).1, (e9 324 (by omega) (by omega)).1, (e9 325 (by omega) (by omega)).1, (e9 326 (by omega) (by omega)).2, (e9 327 (by omega) (by omega)).1]
          exact ⟨m1, m2, m3, m4⟩
        have hQ6 : MQq M6 (s0Q (va_up B 25 (B 0) 0).1 (va_up B 25 (B 0) 0).2) := hB6.q (z := 0) (by rw [h6, pI_nk (by decide), pI_nk (by decide), pI_at]) (by rw [h6, pI_nk (by decide), pI_at]) (by rw [h6, pI_at])
        rw [up_ne (show (0 : Nat) ≠ 25 by decide)] at hQ6
        have e610 : M6.2.1 317 10 = ((gS G : Nat) : Int) := hG6.1
        refine r_cv5 (pc2 := 95) dX12_draw_92 rfl vX12_269 (hK_317 hS6) (by decide) (c_X12_does (d := d + 15) hP hDD hS6 hG6 hQ6 (s0Q_ok hD hk)) ?_
        rintro _ M7 ⟨rfl, q7, f7⟩
        have hS7 := f7.ok hS6
        have hB7 := hB6.fq f7 q7
        obtain ⟨R, eR⟩ : ∃ R, R = dwR s L (B 0) := ⟨_, rfl⟩
        have q7 : MQq M7 R := by rw [eR]; unfold dwR PTq; rw [← eG]; exact q7
        have okR : qOk2 R := by rw [eR]; unfold dwR; rw [← eG]; exact PTq_ok hP hD hk
        have ok9 := okR.1.2.2
        have hB7 : MB M7 (va_up (va_up B 25 (B 0)) 0 (R.1, R.2.1)) := by rw [eR]; unfold dwR PTq; rw [← eG]; exact hB7
        have g7 : ∀ j, j ∉ [7, 8, 24, 25, 26] → M7.2.1 317 j = M3.2.1 317 j := fun j hj => by rw [f7.2.2 317 j (by simp only [List.mem_cons, List.not_mem_nil, or_false] at hj; unfold okQ; omega)]; exact g6 j hj
        have fr7 : fr [317, 319, 320, 321, 323, 324, 325, 326, 327, 328, 329, 330, 331, 332, 333, 334] M M7 := by
          have a1 : fr [317, 328, 329, 330, 331, 332, 333, 334] M6 M7 := ⟨f7.1, fun a ha => ⟨funext (fun j => f7.2.2 a j (by simp only [List.mem_cons, List.not_mem_nil, or_false] at ha; unfold okQ; omega)), by rw [f7.2.1]⟩⟩
          exact ((((f3.mono (by decide)).tr (f4.mono (by decide))).tr (h5.1.mono (by decide))).tr (f6.mono (by decide))).tr (a1.mono (by decide))
        show Go (Ct (d + 331)) _ yX12_draw cX12_draw (some .int) 0 0 95 [some (.ref 317)] [] M7
        refine r_aload0 (pc2 := 96) dX12_draw_95 rfl ?_
        refine r_getI (z := R.2.2.2.2) (pc2 := 99) dX12_draw_96 rfl (Or.inl fX12_260) (hK_317 hS7) q7.2.1 ?_
        refine r_ifle (tgt := 115) (pc2 := 102) dX12_draw_99 rfl (by decide) ⟨by omega, by omega⟩ (fun b_99 => ?_) (fun b_99 => ?_)
        · refine r_aload0 (pc2 := 116) dX12_draw_115 rfl ?_
          refine r_aload0 (pc2 := 117) dX12_draw_116 rfl ?_
          refine r_getI (z := ((R.2.2.2.1 : Nat) : Int)) (pc2 := 120) dX12_draw_117 rfl (Or.inl fX12_266) (hK_317 hS7) q7.2.2.2 ?_
          refine r_putI (z := ((R.2.2.2.1 : Nat) : Int)) (pc2 := 123) dX12_draw_120 rfl fX12_273 (w12_27 _) (hK_317 hS7) (by decide) ?_
          refine r_aload0 (pc2 := 124) dX12_draw_123 rfl ?_
          refine r_cv0 (pc2 := 127) dX12_draw_124 rfl vX12_276 (hK_317 hS7) (by decide) (c_X12_keeps (d := d + 329) (k := k) (B := va_up (va_up B 25 (B 0)) 0 (R.1, R.2.1)) hS7 (by rw [pI_nk (by decide), g7 28 (by decide), f3a 28 (by decide)]; exact hk1) hk2 (hB7.ofl (fr.rf.I (show 317 ∈ [317] by decide)) (by decide))) ?_
          rintro _ M8 ⟨rfl, h8, k8, hB8⟩
          show Go (Ct (d + 331)) _ yX12_draw cX12_draw (some .int) 0 0 127 [some (.ref 317)] [] M8
          refine r_iconst (pc2 := 128) dX12_draw_127 rfl ?_
          refine r_ireti dX12_draw_128 rfl ?_
          have eR0 : (dwR s L (B 0)).2.2.2.2 = 0 := by rw [← eR]; omega
          refine ⟨by unfold dwV; rw [if_pos hF0, eR0]; rfl, ⟨⟨(fr7.tr (fr.rf.I (show 317 ∈ _ by decide))).tr (h8.1.mono (by decide)), fun j hj => ?_, ?_, ?_⟩, fun q => absurd hF0 q, fun _ q => absurd eR0 q, fun _ _ => ⟨by rw [← eR]; exact hB8, ?_, k8⟩⟩⟩
          · simp only [List.mem_cons, List.not_mem_nil, or_false] at hj
            rw [h8.2 j (by omega), pI_nk (by omega), g7 j (by simp only [List.mem_cons, List.not_mem_nil, or_false]; omega)]; exact f3a j (by simp only [List.mem_cons, List.not_mem_nil, or_false]; omega)
          · rw [h8.2 0 (by decide), pI_nk (by decide), g7 0 (by decide)]; exact f30
          · rw [h8.2 2 (by decide), pI_nk (by decide), g7 2 (by decide)]; exact f32
          · rw [h8.2 27 (by decide), pI_at, eR]
        · refine r_aload0 (pc2 := 103) dX12_draw_102 rfl ?_
          refine r_bipush (pc2 := 105) dX12_draw_103 rfl (by decide) (by decide) ?_
          refine r_iconst (pc2 := 106) dX12_draw_105 rfl ?_
          refine r_cv2 (pc2 := 109) dX12_draw_106 rfl vX12_256 (hK_317 hS7) (by decide) (c_X12_copies (d := d + 330) (s := 25) (t := 0) hS7 (by decide) (by decide)) ?_
          rintro _ M8 ⟨rfl, h8⟩
          have hS8 := h8.1.ok hS7
          have hB8 := hB7.cp (by decide) h8
          show Go (Ct (d + 331)) _ yX12_draw cX12_draw (some .int) 0 0 109 [some (.ref 317)] [] M8
          refine r_aload0 (pc2 := 110) dX12_draw_109 rfl ?_
          refine r_getI (z := R.2.2.2.2) (pc2 := 113) dX12_draw_110 rfl (Or.inl fX12_260) (hK_317 hS8) (by rw [h8.1.i (by decide)]; exact q7.2.1) ?_
          refine r_ineg (c := (-R.2.2.2.2)) (pc2 := 114) dX12_draw_113 rfl rfl ?_
          refine r_ireti dX12_draw_114 rfl ?_
          have eR0 : ¬ (dwR s L (B 0)).2.2.2.2 = 0 := by rw [← eR]; omega
          refine ⟨by unfold dwV; rw [if_pos hF0, ← eR], ⟨⟨fr7.tr (h8.1.mono (by decide)), fun j hj => ?_, ?_, ?_⟩, fun q => absurd hF0 q, fun _ _ => ⟨hB8.eq (fun i hi => ?_), ?_, ?_⟩, fun _ q => absurd q eR0⟩⟩
          · simp only [List.mem_cons, List.not_mem_nil, or_false] at hj
            rw [h8.1.i (by decide), g7 j (by simp only [List.mem_cons, List.not_mem_nil, or_false]; omega)]; exact f3a j (by simp only [List.mem_cons, List.not_mem_nil, or_false]; omega)
          · rw [h8.1.i (by decide), g7 0 (by decide)]; exact f30
          · rw [h8.1.i (by decide), g7 2 (by decide)]; exact f32
          · by_cases e : i = 0
            · rw [e, up_at, up_ne (show (25 : Nat) ≠ 0 by decide), up_at, up_ne (show (0 : Nat) ≠ 25 by decide)]
            · rw [up_ne e, up_ne e]
          · rw [h8.1.i (by decide), g7 27 (by decide)]; exact f3a 27 (by decide)
          · rw [h8.1.i (by decide), g7 28 (by decide)]; exact f3a 28 (by decide)
      · refine r_aload0 (pc2 := 57) dX12_draw_56 rfl ?_
        refine r_getI (z := ry.2) (pc2 := 60) dX12_draw_57 rfl (Or.inl fX12_182) (hK_317 hS3) rfl ?_
        refine r_ireti dX12_draw_60 rfl ?_
        exact absurd b_53 (by omega)
    · refine r_aload0 (pc2 := 45) dX12_draw_44 rfl ?_
      refine r_iconst (pc2 := 46) dX12_draw_45 rfl ?_
      refine r_cv1 (pc2 := 49) dX12_draw_46 rfl vX12_188 (hK_317 hS3) (by decide) (c_X12_wrong (d := d + 330) hS3 hT hC3 o_r (by decide)) ?_
      rintro _ M9 ⟨rfl, h9⟩
      rw [h9]
      obtain ⟨r5, e5⟩ : ∃ r5, r5 = fl (txT s L) 1 ry := ⟨_, rfl⟩
      rw [← e5]
      have hr5 : rOk (txT s L) r5 := by rw [e5]; exact rOk.f (w := 1) hT o_r (by omega) (by omega)
      have i_5 := hr5.2
      show Go (Ct (d + 331)) _ yX12_draw cX12_draw (some .int) 0 0 49 [some (.ref 317)] [] (mM M3 r5)
      refine r_aload0 (pc2 := 50) dX12_draw_49 rfl ?_
      refine r_getI (z := r5.2) (pc2 := 53) dX12_draw_50 rfl (Or.inl fX12_182) (hK_317 hS3) rfl ?_
      refine r_ifle (tgt := 61) (pc2 := 56) dX12_draw_53 rfl (by decide) ⟨by omega, by omega⟩ (fun b_53 => ?_) (fun b_53 => ?_)
      · exact absurd (fl_f (T := txT s L) (w := 1) (r := ry) (by omega) i_r.1) (by rw [← e5]; omega)
      · refine r_aload0 (pc2 := 57) dX12_draw_56 rfl ?_
        refine r_getI (z := r5.2) (pc2 := 60) dX12_draw_57 rfl (Or.inl fX12_182) (hK_317 hS3) rfl ?_
        refine r_ireti dX12_draw_60 rfl ?_
        have k22 : ¬ kK (txT s L) ry.1 = 22 := fun e => b_41 (by unfold mSo; rw [e]; rfl)
        have eF : (rdF s L).1 = r5 := by rw [e5]; exact (hrd.2.2.1 (by omega) k22).1
        refine ⟨?_, ⟨⟨((f3.I (by decide)).I (by decide)).mono (by decide), fun j hj => ?_, ?_, ?_⟩, fun _ => ⟨hB3.ofl ((fr.rf.I (show 317 ∈ [317] by decide)).I (by decide)) (by decide), ?_, ?_⟩, fun q => absurd q (by rw [eF]; omega), fun q => absurd q (by rw [eF]; omega)⟩⟩
        · unfold dwV; rw [eF, if_neg (by omega)]
        · simp only [List.mem_cons, List.not_mem_nil, or_false] at hj
          show (pI (pI M3 317 7 _) 317 8 _).2.1 317 j = _
          rw [pI_nk (by omega), pI_nk (by omega)]; exact f3a j (by simp only [List.mem_cons, List.not_mem_nil, or_false]; omega)
        · exact f30
        · exact f32
        · exact f3a 27 (by decide)
        · exact f3a 28 (by decide)
