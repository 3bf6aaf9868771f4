/-! list, that it answers nothing -/
set_option maxHeartbeats 4000000 in
theorem c_X7_list2 {d : Nat} {M : pM} {b n : Nat} {v : Int64} {sf : Int} {D : bD} {ix ho : Nat → Nat} {hw s : Nat → Int} (hS : sOk M.1) (hb_b : isB b) (hC : CS M b D ix) (hD : bOk D) (hg : sgC M n ho hw) (hh : ∀ i, ho i < 4) (hv : M.2.2 b 11 = v) (hE : BE D.1.1 ix v s) (hs : bK D s) (hsf : inR sf) (hls : inR (M.2.1 270 8)) : Ct (d + 5) 0 0 yX7_list [.ref 270, .ref (b), .int (iI sf)] M (fun v_ M2 => v_ = none ∧ ((M.2.1 270 8 = sf ∧ M2 = M) ∨ (¬ M.2.1 270 8 = sf ∧ ∃ M1, fr [270] M M1 ∧ (∀ k, k ≠ 7 → k ≠ 8 → M1.2.1 270 k = M.2.1 270 k) ∧ frL b M1 M2 ∧ M2.2.1 270 8 = sf ∧ CL D ix M2 (susN D ho hw n s 156)))) := by
  refine ct_in (d := (d + 4)) kX7_list rfl (by decide) (Nat.le_of_ble_eq_true rfl) (by decide) ?_
  show Go (Ct (d + 4)) _ yX7_list cX7_list none 0 0 0 [some (.ref 270), some (.ref (b)), some (.int (iI sf)), none, none, none] [] M
  obtain ⟨sf1, sf2⟩ := hsf
  obtain ⟨ls1, ls2⟩ := hls
  refine r_aload0 (pc2 := 1) dX7_list_0 rfl ?_
  refine r_getI (z := (M.2.1 270 8)) (pc2 := 4) dX7_list_1 rfl (Or.inl fX7_31) (hK_270 hS) rfl ?_
  refine r_iload2 (pc2 := 5) dX7_list_4 rfl ?_
  refine r_icne (tgt := 9) (pc2 := 8) dX7_list_5 rfl (by decide) ⟨by omega, by omega⟩ ⟨by omega, by omega⟩ (fun b_5 => ?_) (fun b_5 => ?_)
  · refine r_aload0 (pc2 := 10) dX7_list_9 rfl ?_
    refine r_iload2 (pc2 := 11) dX7_list_10 rfl ?_
    refine r_putI (z := sf) (pc2 := 14) dX7_list_11 rfl fX7_31 (w7_8 _) (hK_270 hS) (by decide) ?_
    refine r_aload0 (pc2 := 15) dX7_list_14 rfl ?_
    refine r_iconst (pc2 := 16) dX7_list_15 rfl ?_
    refine r_putI (z := 0) (pc2 := 19) dX7_list_16 rfl fX7_38 (w7_7 _) (hK_270 hS) (by decide) ?_
    obtain ⟨M1, h1⟩ : ∃ M1, M1 = (pI (pI M 270 8 sf) 270 7 0) := ⟨_, rfl⟩
    rw [← h1]
    have e1 : M1.2.1 270 = va_up (va_up (M.2.1 270) 8 sf) 7 0 := by rw [h1]; rfl
    have f1 : fr [270] M M1 := by rw [h1]; exact (fr.rf.I (by decide)).I (by decide)
    have hS1 := f1.ok hS
    have hd := isB_d hb_b
    have hC1 : CS M1 b D ix := hC.of (fun k k1 k2 => f1.2 _ (fun q => isB_270 hb_b k2 (by revert q; simp only [List.mem_cons, List.not_mem_nil, or_false]; omega)))
    have hg1 : sgC M1 n ho hw := ⟨by rw [e1]; exact hg.1, hg.2.1, fun i hi => by rw [f1.i (by decide), f1.i (by decide)]; exact hg.2.2 i hi⟩
    have hv1 : M1.2.2 b 11 = v := by rw [h1]; exact hv
    have hL1 : CL D ix M1 (0, fun _ => (0, 0, fun _ => 0)) := ⟨by rw [e1]; rfl, fun i hi => absurd hi (by show ¬ i < 0; omega)⟩
    refine r_aload0 (pc2 := 20) dX7_list_19 rfl ?_
    refine r_aload1 (pc2 := 21) dX7_list_20 rfl ?_
    refine r_iconst (pc2 := 22) dX7_list_21 rfl ?_
    refine r_lconst (pc2 := 23) dX7_list_22 rfl ?_
    refine r_cv3 (pc2 := 26) dX7_list_23 rfl vX7_41 (hK_270 hS1) (by decide) (c_X7_weigh (d := d) (n := n) (ho := ho) (hw := hw) (s := s) (st := -2) (S := (0, fun _ => (0, 0, fun _ => 0))) (b := b) hS1 hb_b hC1 hD (stk0 (fun q _ => (bT_r D q).1)) hg1 hh hL1 (by show 0 ≤ 16; omega) hv1 hE hs) ?_
    rintro _ M8 ⟨rfl, f8, hL8⟩
    have hv8 : M8.2.2 b 11 = v := (f8.2.1.2 11 (by decide)).trans hv1
    show Go (Ct (d + 4)) _ yX7_list cX7_list none 0 0 26 [some (.ref 270), some (.ref (b)), some (.int (iI sf)), none, none, none] [] M8
    refine r_lconst (pc2 := 27) dX7_list_26 rfl ?_
    refine r_lstore3 (pc2 := 28) dX7_list_27 rfl rfl ?_
    refine r_iconst (pc2 := 29) dX7_list_28 rfl ?_
    refine r_istore5 (pc2 := 31) dX7_list_29 rfl rfl ?_
    refine lp_X7_list (d := d) M1 hS1 hb_b hC1 hD hg1 hh hv1 hE hs (fun M2 hf hL2 => ⟨rfl, Or.inr ⟨by omega, M1, f1, fun k k7 k8 => by rw [e1, up_ne k7, up_ne k8], hf, by rw [hf.2.2 8 (by decide), e1, up_ne (by decide), up_at], hL2⟩⟩) 156 0 0 M8 (by omega) f8 hL8 knB_0
  · refine r_ret dX7_list_8 rfl ?_
    exact ⟨rfl, Or.inl ⟨by omega, rfl⟩⟩
