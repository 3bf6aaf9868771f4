/-! findWay as a whole -/
theorem MD_0 {M : pM} {D : bD} {s : Nat → Int} (h : MD M 0 D s) : ∀ q, q < 156 → M.2.1 328 q = D.1.1 q ∧ M.2.1 329 q = D.1.2 q ∧ M.2.1 330 q = s q := fun q hq => by
  have := h.1 q hq
  rw [show 156 * 0 + q = q by omega] at this
  exact this
set_option maxHeartbeats 4000000 in
theorem c_X12_findWay {d : Nat} {M : pM} {n : Nat} {D : bD} {W s : Nat → Int} (hS : sOk M.1) (hB : MD M 0 D s) (hD : bOk D) (hs : bK D s) (hn : M.2.1 317 45 = (n : Int)) (hW : WL n (M.2.1 345) (M.2.1 346) W) : Ct (d + 4) 0 0 yX12_findWay [.ref 317] M (fun v M2 => v = none ∧ frT M M2 ∧ M2.2.1 317 44 = (wyF D W s).1 ∧ ∀ j : Nat, (j : Int) < (wyF D W s).1 → M2.2.1 344 j = (wyF D W s).2 j) := by
  refine ct_in (d := (d + 3)) kX12_findWay rfl (by decide) (Nat.le_of_ble_eq_true rfl) (by decide) ?_
  show Go (Ct (d + 3)) _ yX12_findWay cX12_findWay none 0 0 0 [some (.ref 317), none, none, none, none, none] [] M
  refine r_aload0 (pc2 := 1) dX12_findWay_0 rfl ?_
  refine r_iconst (pc2 := 2) dX12_findWay_1 rfl ?_
  refine r_putI (z := (-1)) (pc2 := 5) dX12_findWay_2 rfl fX12_360 (w12_44 _) (hK_317 hS) (by decide) ?_
  refine r_iconst (pc2 := 6) dX12_findWay_5 rfl ?_
  refine r_istore1 (pc2 := 7) dX12_findWay_6 rfl rfl ?_
  obtain ⟨M1, h1⟩ : ∃ M1, M1 = pI M 317 44 (-1) := ⟨_, rfl⟩
  rw [← h1]
  have f1 : fr [317] M M1 := by rw [h1]; exact fr.rf.I (by decide)
  have g0 : frT M M1 := frT.of (f1.mono (by decide)) (fun j hj => by rw [h1, pI_nk (by rintro rfl; exact hj (by decide))])
  have m1 : MD M1 0 D s := hB.ofl f1 (by decide)
  refine lp0_X12_findWay (d := d) (n := n) (W := W) (pc := D.1.1) (g0.f.ok hS) (by rw [g0.2.1 45 (by decide)]; exact hn) (hW.fr f1 (by decide) (by decide)) (fun q hq => ⟨(MD_0 m1 q hq).1, bK_pc hs q hq⟩) (fun hwo => ?_) (fun hwo => ?_) n 0 (by omega) (fun k h9 => by omega)
  · rw [wyF_no hwo]; exact ⟨rfl, g0, by rw [h1, pI_at], fun j hj => absurd hj (by show ¬ (j : Int) < -1; omega)⟩
  refine r_aload0 (pc2 := 36) dX12_findWay_35 rfl ?_
  refine r_iconst (pc2 := 37) dX12_findWay_36 rfl ?_
  refine r_bipush (pc2 := 39) dX12_findWay_37 rfl (by decide) (by decide) ?_
  refine r_cv2 (pc2 := 42) dX12_findWay_39 rfl vX12_256 (hK_317 (g0.f.ok hS)) (by decide) (c_X12_copies (d := d + 2) (s := 0) (t := 26) (g0.f.ok hS) (by omega) (by decide)) ?_
  rintro _ M3 ⟨rfl, hc3⟩
  have g3 : frT M M3 := g0.tr (frT.cp hc3 (by decide))
  have m3 : MD M3 26 D s := m1.cp hc3
  show Go (Ct (d + 3)) _ yX12_findWay cX12_findWay none 0 0 42 [some (.ref 317), some (.int (iI ((n : Nat) : Int))), none, none, none, none] [] M3
  refine r_aload0 (pc2 := 43) dX12_findWay_42 rfl ?_
  refine r_bipush (pc2 := 45) dX12_findWay_43 rfl (by decide) (by decide) ?_
  refine r_iconst (pc2 := 46) dX12_findWay_45 rfl ?_
  refine r_cv2 (pc2 := 49) dX12_findWay_46 rfl vX12_309 (hK_317 (g3.f.ok hS)) (by decide) (c_X12_findTrains (d := d + 1) (b := 26) (sl := 0) (pc := D.1.1) (g3.f.ok hS) (by decide) (by decide) (fun q hq => ⟨(m3.1 q hq).1, bK_pc hs q hq⟩)) ?_
  rintro _ M4 ⟨rfl, f4, e4⟩
  have g4 : frT M M4 := g3.tr (frT.of (f4.mono (by decide)) (fun j _ => by rw [f4.i (by decide)]))
  have m4 : MS M4 26 0 D := m3.ms f4 e4
  have m4b : MD M4 26 D s := m3.ofl f4 (by decide)
  show Go (Ct (d + 3)) _ yX12_findWay cX12_findWay none 0 0 49 [some (.ref 317), some (.int (iI ((n : Nat) : Int))), none, none, none, none] [] M4
  refine r_aload0 (pc2 := 50) dX12_findWay_49 rfl ?_
  refine r_cv0 (pc2 := 53) dX12_findWay_50 rfl vX12_337 (hK_317 (g4.f.ok hS)) (by decide) (c_X12_begins (d := d + 2) (A := fun _ => 0) (B := fun _ => 0) (g4.f.ok hS)) ?_
  rintro _ M6 ⟨rfl, f6, e6, hN6⟩
  have g6 : frT M M6 := g4.tr (frT.of (f6.mono (by decide)) (fun j hj => by rw [e6, up_ne (by rintro rfl; exact hj (by decide))]))
  have m6 : MS M6 26 0 D := m4.of (fun q hq => f6.i (by revert hq; simp only [List.mem_cons, List.not_mem_nil, or_false]; omega))
  have m6b : MD M6 26 D s := m4b.of (fun q hq => f6.i (by revert hq; simp only [List.mem_cons, List.not_mem_nil, or_false]; omega))
  show Go (Ct (d + 3)) _ yX12_findWay cX12_findWay none 0 0 53 [some (.ref 317), some (.int (iI ((n : Nat) : Int))), none, none, none, none] [] M6
  refine r_aload0 (pc2 := 54) dX12_findWay_53 rfl ?_
  refine r_aload0 (pc2 := 55) dX12_findWay_54 rfl ?_
  refine r_bipush (pc2 := 57) dX12_findWay_55 rfl (by decide) (by decide) ?_
  refine r_cv1 (pc2 := 60) dX12_findWay_57 rfl vX12_340 (hK_317 (g6.f.ok hS)) (Nat.le_of_ble_eq_true rfl) (MS_code (d := d + 1) (i := 26) (s := 0) (sh := s) m6 (g6.f.ok hS) (by decide) hD hs (fun q hq => (m6b.1 q hq).2.2)) ?_
  rintro _ M8 ⟨rfl, h8⟩
  rw [h8]
  show Go (Ct (d + 3)) _ yX12_findWay cX12_findWay none 0 0 60 [some (.ref 317), some (.int (iI ((n : Nat) : Int))), none, none, none, none] [.long ((lN (cdN D.1.1 s 156))), .ref 317] M6
  refine r_lconst (pc2 := 61) dX12_findWay_60 rfl ?_
  refine r_iconst (pc2 := 62) dX12_findWay_61 rfl ?_
  refine r_iconst (pc2 := 63) dX12_findWay_62 rfl ?_
  refine r_sipush (pc2 := 66) dX12_findWay_63 rfl (by decide) (by decide) ?_
  refine r_cv5 (pc2 := 69) dX12_findWay_66 rfl vX12_350 (hK_317 (g6.f.ok hS)) (by decide) (c_X12_comesUp (d := d + 1) (n := 0) (mo := 3000) (A := fun _ => 0) (B := fun _ => 0) (g6.f.ok hS) hN6 (by omega)) ?_
  rintro _ M11 (⟨hyes, rfl, h11⟩ | ⟨hno, hfull, rfl, h11⟩ | ⟨hno, hroom, rfl, hN11, f11, e340, e341, e317⟩)
  · obtain ⟨j, j1, -⟩ := hyes
    exact absurd j1 (by omega)
  · exact absurd hfull (by omega)
  · have hf11 : frU M6 M11 := frU.cu f11 e317
    have g11 : frT M M11 := g6.tr hf11.t
    have hsz11 : M11.2.1 317 38 = 1 := hN11.1
    have hw11 : WL n (M11.2.1 345) (M11.2.1 346) W := hW.fr g11.f (by decide) (by decide)
    have q11 : ∀ q, q < 156 → M11.2.1 330 (156 * 26 + q) = s q := fun q hq => by rw [f11.i (by decide)]; exact (m6b.1 q hq).2.2
    have hn11 : M11.2.1 317 45 = (n : Int) := by rw [g11.2.1 45 (by decide)]; exact hn
    have e44 : M11.2.1 317 44 = -1 := by rw [hf11.2.1 44 (by decide), e6, up_ne (by decide), f4.i (by decide), hc3.1.i (by decide), h1, pI_at]
    show Go (Ct (d + 3)) _ yX12_findWay cX12_findWay none 0 0 69 [some (.ref 317), some (.int (iI ((n : Nat) : Int))), none, none, none, none] [.int (iI 1)] M11
    refine r_istore1 (pc2 := 70) dX12_findWay_69 rfl rfl ?_
    refine r_aload0 (pc2 := 71) dX12_findWay_70 rfl ?_
    refine r_cv0 (pc2 := 74) dX12_findWay_71 rfl vX12_388 (hK_317 (g11.f.ok hS)) (by decide) (c_X12_isWished (d := d + 2) (n := n) (W := W) (sh := s) (g11.f.ok hS) hn11 hw11 (fun q hq => ⟨q11 q hq, bK_9 hs q hq⟩)) ?_
    rintro _ M12 ⟨h12, ⟨hwi, rfl⟩ | ⟨hwi, rfl⟩⟩
    · rw [h12]
      show Go (Ct (d + 3)) _ yX12_findWay cX12_findWay none 0 0 74 [some (.ref 317), some (.int (iI 1)), none, none, none, none] [.int (iI 1)] M11
      refine r_ifeq (tgt := 83) (pc2 := 77) dX12_findWay_74 rfl (by decide) ⟨by omega, by omega⟩ (fun h9 => absurd h9 (by decide)) (fun _ => ?_)
      refine r_aload0 (pc2 := 78) dX12_findWay_77 rfl ?_
      refine r_iconst (pc2 := 79) dX12_findWay_78 rfl ?_
      refine r_putI (z := 0) (pc2 := 82) dX12_findWay_79 rfl fX12_360 (w12_44 _) (hK_317 (g11.f.ok hS)) (by decide) ?_
      refine r_ret dX12_findWay_82 rfl ?_
      rw [wyF_0 hwo hwi]
      refine ⟨rfl, g11.tr (frT.of (fr.rf.I (by decide)) (fun j hj => pI_nk (by rintro rfl; exact hj (by decide)))), pI_at, fun j hj => absurd hj (by omega)⟩
    · rw [h12]
      show Go (Ct (d + 3)) _ yX12_findWay cX12_findWay none 0 0 74 [some (.ref 317), some (.int (iI 1)), none, none, none, none] [.int (iI 0)] M11
      refine r_ifeq (tgt := 83) (pc2 := 77) dX12_findWay_74 rfl (by decide) ⟨by omega, by omega⟩ (fun _ => ?_) (fun h9 => absurd h9 (by decide))
      refine r_iconst (pc2 := 84) dX12_findWay_83 rfl ?_
      refine r_istore2 (pc2 := 85) dX12_findWay_84 rfl rfl ?_
      refine r_iload2 (pc2 := 86) dX12_findWay_85 rfl ?_
      refine r_aload0 (pc2 := 87) dX12_findWay_86 rfl ?_
      refine r_getI (z := 1) (pc2 := 90) dX12_findWay_87 rfl (Or.inl fX12_324) (hK_317 (g11.f.ok hS)) hsz11 ?_
      refine r_icge (tgt := 190) (pc2 := 93) dX12_findWay_90 rfl (by decide) ⟨by omega, by omega⟩ ⟨by omega, by omega⟩ (fun h9 => absurd h9 (by decide)) (fun _ => ?_)
      refine r_iconst (pc2 := 94) dX12_findWay_93 rfl ?_
      refine r_istore3 (pc2 := 95) dX12_findWay_94 rfl rfl ?_
      rw [wyF_s hwo hwi]
      refine lp_X12_findWay (d := d) (F := wyG D W s) (nw := n) (W := W) M6 (g6.f.ok hS) m6 hD (by rw [← hf11.2.1 44 (by decide)]; exact e44) (by rw [← hf11.2.1 45 (by decide)]; exact hn11) (hW.fr g6.f (by decide) (by decide)) (fun M12 M2 hf hf2 hj => ?_) 15000 0 0 1 (fun _ => s) (fun _ => -1) (fun _ => -1) (va_up (fun _ => 0) 0 (lN (cdN D.1.1 s 156))) (va_up (fun _ => 0) 0 0) M11 s _ _ (by omega) (by omega) (by omega) hf11 hN11 (by omega) (fun j hj => ?_) ⟨rfl, fun j j1 j2 => by omega⟩ (fun j hj => ?_) hs q11 rfl
      · refine ⟨rfl, (g6.tr hf.t).tr (frT.of ((fr.tr (M1 := pI M12 317 44 (wyG D W s).1) (fr.rf.I (by decide)) (hf2.mono (by decide)))) (fun j hj => ?_)), by rw [hf2.i (by decide), pI_at], hj⟩
        rw [hf2.i (by decide), pI_nk (by rintro rfl; exact hj (by decide))]
      · obtain rfl : j = 0 := by omega
        rw [up_at, up_at]; exact ⟨rfl, rfl, hs⟩
      · obtain rfl : j = 0 := by omega
        rw [e340, e341, up_at, up_at]; exact ⟨rfl, rfl⟩
