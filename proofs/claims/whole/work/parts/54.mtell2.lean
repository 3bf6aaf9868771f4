/-! tellsApart as a whole -/
theorem MD.cp {M M2 : pM} {s t : Nat} {D : bD} {sh : Nat → Int} (h : MD M s D sh) (hc : mCp M M2 s t) : MD M2 t D sh := by
  obtain ⟨c0, c1, c2, c3, c4, c5, c6, c7⟩ := hc
  refine ⟨fun q hq => ?_, fun q hq => ?_, fun q hq => ?_⟩
  · rw [c1, c2, c3, sB_in hq, sB_in hq, sB_in hq]; exact h.1 q hq
  · rw [c5, c6, c7, sB_in hq, sB_in hq, sB_in hq]; exact h.2.1 q hq
  · rw [c4, sB_in hq]; exact h.2.2 q hq
theorem MD.cpo {M M2 : pM} {s t i : Nat} {D : bD} {sh : Nat → Int} (h : MD M i D sh) (hc : mCp M M2 s t) (hi : i ≠ t) : MD M2 i D sh := by
  obtain ⟨c0, c1, c2, c3, c4, c5, c6, c7⟩ := hc
  refine ⟨fun q hq => ?_, fun q hq => ?_, fun q hq => ?_⟩
  · rw [c1, c2, c3, sB_out (by omega), sB_out (by omega), sB_out (by omega)]; exact h.1 q hq
  · rw [c5, c6, c7, sB_out (by omega), sB_out (by omega), sB_out (by omega)]; exact h.2.1 q hq
  · rw [c4, sB_out (by omega)]; exact h.2.2 q hq
theorem MD.of {M M2 : pM} {i : Nat} {D : bD} {sh : Nat → Int} (h : MD M i D sh) (hf : ∀ a, a ∈ [328, 329, 330, 331, 332, 333, 334] → M2.2.1 a = M.2.1 a) : MD M2 i D sh := by
  obtain ⟨h1, h2, h3⟩ := h
  refine ⟨fun q hq => ?_, fun q hq => ?_, fun q hq => ?_⟩
  · rw [hf 328 (by decide), hf 329 (by decide), hf 330 (by decide)]; exact h1 q hq
  · rw [hf 333 (by decide), hf 332 (by decide), hf 334 (by decide)]; exact h2 q hq
  · rw [hf 331 (by decide)]; exact h3 q hq
theorem MD.ofl {l : List Nat} {M M2 : pM} {i : Nat} {D : bD} {sh : Nat → Int} (h : MD M i D sh) (hf : fr l M M2) (hl : ∀ a, a ∈ [328, 329, 330, 331, 332, 333, 334] → a ∉ l) : MD M2 i D sh := h.of (fun a ha => hf.i (hl a ha))
theorem MD.ms {M M2 : pM} {i s : Nat} {D : bD} {sh : Nat → Int} (h : MD M i D sh) (hf : fr [335, 336] M M2) (e : M2.2.1 335 = sB (M.2.1 335) 156 s (bT D)) : MS M2 i s D := by
  obtain ⟨h1, h2, h3⟩ := h
  refine ⟨fun q hq => ?_, fun q hq => ?_, fun q hq => ?_⟩
  · rw [hf.i (by decide), hf.i (by decide), e, sB_in hq]; exact ⟨(h1 q hq).1, (h1 q hq).2.1, rfl⟩
  · rw [hf.i (by decide), hf.i (by decide), hf.i (by decide)]; exact h2 q hq
  · rw [hf.i (by decide)]; exact h3 q hq
theorem MS.ft {M M2 : pM} {i s t : Nat} {D : bD} {g : Nat → Int} (h : MS M i s D) (hf : fr [335, 336] M M2) (hst : s ≠ t) (e : M2.2.1 335 = sB (M.2.1 335) 156 t g) : MS M2 i s D := by
  obtain ⟨h1, h2, h3⟩ := h
  refine ⟨fun q hq => ?_, fun q hq => ?_, fun q hq => ?_⟩
  · rw [hf.i (by decide), hf.i (by decide), e, sB_out (by omega)]; exact h1 q hq
  · rw [hf.i (by decide), hf.i (by decide), hf.i (by decide)]; exact h2 q hq
  · rw [hf.i (by decide)]; exact h3 q hq
theorem frU.t {M M2 : pM} (h : frU M M2) : frT M M2 := frT.sh (b := 0) (sh := fun _ => 0) h.1 (fun j hj => h.2.1 j (by rintro rfl; exact hj (by decide))) h.2.2
theorem bK_pc {D : bD} {sh : Nat → Int} (h : bK D sh) : ∀ p, p < 156 → 0 ≤ D.1.1 p ∧ D.1.1 p ≤ 9 := fun p hp => (h.1 p hp).1
theorem frT.f {M M2 : pM} (h : frT M M2) : fr [317, 328, 329, 330, 331, 332, 333, 334, 335, 336, 338, 339, 340, 341, 342, 344] M M2 := h.1
theorem frT.rf {M : pM} : frT M M := ⟨fr.rf, fun _ _ => rfl, fun _ _ => ⟨rfl, rfl, rfl⟩, fun _ _ => rfl, fun _ _ => ⟨rfl, rfl, rfl⟩⟩

set_option maxHeartbeats 4000000 in
theorem c_X12_tellsApart {d : Nat} {M : pM} {a b : Nat} {D E : bD} {s t : Nat → Int} (hS : sOk M.1) (ha : a < 26) (hb : b < 26) (hB : MD M a D s) (hC : MD M b E t) (hD : bOk D) (hE : bOk E) (hs : bK D s) (ht : bK E t) : Ct (d + 4) 0 0 yX12_tellsApart [.ref 317, .int (iI ((a : Nat) : Int)), .int (iI ((b : Nat) : Int))] M (fun v M2 => v = none ∧ frT M M2 ∧ (a = b ∧ M2.2.1 317 44 = 0 ∨ a ≠ b ∧ M2.2.1 317 44 = (tlF D E s t).1 ∧ ∀ j : Nat, (j : Int) < (tlF D E s t).1 → M2.2.1 344 j = (tlF D E s t).2 j)) := by
  refine ct_in (d := (d + 3)) kX12_tellsApart rfl (by decide) (Nat.le_of_ble_eq_true rfl) (by decide) ?_
  show Go (Ct (d + 3)) _ yX12_tellsApart cX12_tellsApart none 0 0 0 [some (.ref 317), some (.int (iI ((a : Nat) : Int))), some (.int (iI ((b : Nat) : Int))), none, none, none] [] M
  refine r_aload0 (pc2 := 1) dX12_tellsApart_0 rfl ?_
  refine r_iload1 (pc2 := 2) dX12_tellsApart_1 rfl ?_
  refine r_bipush (pc2 := 4) dX12_tellsApart_2 rfl (by decide) (by decide) ?_
  refine r_cv2 (pc2 := 7) dX12_tellsApart_4 rfl vX12_256 (hK_317 hS) (by decide) (c_X12_copies (d := d + 2) (s := a) (t := 26) hS (by omega) (by decide)) ?_
  rintro _ M1 ⟨rfl, hc1⟩
  have g1 : frT M M1 := frT.cp hc1 (by decide)
  have m1 : MD M1 26 D s := hB.cp hc1
  have n1 : MD M1 b E t := hC.cpo hc1 (by omega)
  show Go (Ct (d + 3)) _ yX12_tellsApart cX12_tellsApart none 0 0 7 [some (.ref 317), some (.int (iI ((a : Nat) : Int))), some (.int (iI ((b : Nat) : Int))), none, none, none] [] M1
  refine r_aload0 (pc2 := 8) dX12_tellsApart_7 rfl ?_
  refine r_iload2 (pc2 := 9) dX12_tellsApart_8 rfl ?_
  refine r_bipush (pc2 := 11) dX12_tellsApart_9 rfl (by decide) (by decide) ?_
  refine r_cv2 (pc2 := 14) dX12_tellsApart_11 rfl vX12_256 (hK_317 (g1.f.ok hS)) (by decide) (c_X12_copies (d := d + 2) (s := b) (t := 27) (g1.f.ok hS) (by omega) (by decide)) ?_
  rintro _ M3 ⟨rfl, hc3⟩
  have g3 : frT M M3 := g1.tr (frT.cp hc3 (by decide))
  have m3 : MD M3 26 D s := m1.cpo hc3 (by decide)
  have n3 : MD M3 27 E t := n1.cp hc3
  show Go (Ct (d + 3)) _ yX12_tellsApart cX12_tellsApart none 0 0 14 [some (.ref 317), some (.int (iI ((a : Nat) : Int))), some (.int (iI ((b : Nat) : Int))), none, none, none] [] M3
  refine r_aload0 (pc2 := 15) dX12_tellsApart_14 rfl ?_
  refine r_bipush (pc2 := 17) dX12_tellsApart_15 rfl (by decide) (by decide) ?_
  refine r_iconst (pc2 := 18) dX12_tellsApart_17 rfl ?_
  refine r_cv2 (pc2 := 21) dX12_tellsApart_18 rfl vX12_309 (hK_317 (g3.f.ok hS)) (by decide) (c_X12_findTrains (d := d + 1) (b := 26) (sl := 0) (pc := D.1.1) (g3.f.ok hS) (by decide) (by decide) (fun q hq => ⟨(m3.1 q hq).1, bK_pc hs q hq⟩)) ?_
  rintro _ M4 ⟨rfl, f4, e4⟩
  have g4 : frT M M4 := g3.tr (frT.of (f4.mono (by decide)) (fun j _ => by rw [f4.i (by decide)]))
  have m4 : MS M4 26 0 D := m3.ms f4 e4
  have m4b : MD M4 26 D s := m3.ofl f4 (by decide)
  have n4 : MD M4 27 E t := n3.ofl f4 (by decide)
  show Go (Ct (d + 3)) _ yX12_tellsApart cX12_tellsApart none 0 0 21 [some (.ref 317), some (.int (iI ((a : Nat) : Int))), some (.int (iI ((b : Nat) : Int))), none, none, none] [] M4
  refine r_aload0 (pc2 := 22) dX12_tellsApart_21 rfl ?_
  refine r_bipush (pc2 := 24) dX12_tellsApart_22 rfl (by decide) (by decide) ?_
  refine r_iconst (pc2 := 25) dX12_tellsApart_24 rfl ?_
  refine r_cv2 (pc2 := 28) dX12_tellsApart_25 rfl vX12_309 (hK_317 (g4.f.ok hS)) (by decide) (c_X12_findTrains (d := d + 1) (b := 27) (sl := 1) (pc := E.1.1) (g4.f.ok hS) (by decide) (by decide) (fun q hq => ⟨(n4.1 q hq).1, bK_pc ht q hq⟩)) ?_
  rintro _ M5 ⟨rfl, f5, e5⟩
  have g5 : frT M M5 := g4.tr (frT.of (f5.mono (by decide)) (fun j _ => by rw [f5.i (by decide)]))
  have m5 : MS M5 26 0 D := m4.ft f5 (by decide) e5
  have m5b : MD M5 26 D s := m4b.ofl f5 (by decide)
  have n5 : MS M5 27 1 E := n4.ms f5 e5
  have n5b : MD M5 27 E t := n4.ofl f5 (by decide)
  show Go (Ct (d + 3)) _ yX12_tellsApart cX12_tellsApart none 0 0 28 [some (.ref 317), some (.int (iI ((a : Nat) : Int))), some (.int (iI ((b : Nat) : Int))), none, none, none] [] M5
  refine r_aload0 (pc2 := 29) dX12_tellsApart_28 rfl ?_
  refine r_cv0 (pc2 := 32) dX12_tellsApart_29 rfl vX12_337 (hK_317 (g5.f.ok hS)) (by decide) (c_X12_begins (d := d + 2) (A := fun _ => 0) (B := fun _ => 0) (g5.f.ok hS)) ?_
  rintro _ M6 ⟨rfl, f6, e6, hN6⟩
  have g6 : frT M M6 := g5.tr (frT.of (f6.mono (by decide)) (fun j hj => by rw [e6, up_ne (by rintro rfl; exact hj (by decide))]))
  show Go (Ct (d + 3)) _ yX12_tellsApart cX12_tellsApart none 0 0 32 [some (.ref 317), some (.int (iI ((a : Nat) : Int))), some (.int (iI ((b : Nat) : Int))), none, none, none] [] M6
  refine r_aload0 (pc2 := 33) dX12_tellsApart_32 rfl ?_
  refine r_iconst (pc2 := 34) dX12_tellsApart_33 rfl ?_
  refine r_putI (z := 0) (pc2 := 37) dX12_tellsApart_34 rfl fX12_360 (w12_44 _) (hK_317 (g6.f.ok hS)) (by decide) ?_
  obtain ⟨M7, h7⟩ : ∃ M7, M7 = pI M6 317 44 0 := ⟨_, rfl⟩
  rw [← h7]
  have f7 : fr [317] M6 M7 := by rw [h7]; exact fr.rf.I (by decide)
  have e7 : M7.2.1 317 = va_up (M6.2.1 317) 44 0 := by rw [h7]; exact pI_eq
  have g7 : frT M M7 := g6.tr (frT.of (f7.mono (by decide)) (fun j hj => by rw [e7, up_ne (by rintro rfl; exact hj (by decide))]))
  have e57 : ∀ a, a ∈ [328, 329, 331, 332, 333, 334, 335] → M7.2.1 a = M5.2.1 a := fun a ha => by rw [f7.i (by revert ha; simp only [List.mem_cons, List.not_mem_nil, or_false]; omega), f6.i (by revert ha; simp only [List.mem_cons, List.not_mem_nil, or_false]; omega)]
  have e57c : ∀ a, a ∈ [328, 329, 330, 331, 332, 333, 334] → M7.2.1 a = M5.2.1 a := fun a ha => by rw [f7.i (by revert ha; simp only [List.mem_cons, List.not_mem_nil, or_false]; omega), f6.i (by revert ha; simp only [List.mem_cons, List.not_mem_nil, or_false]; omega)]
  have hN7 : TN M7 0 (fun _ => 0) (fun _ => 0) := ⟨by rw [e7, up_ne (by decide)]; exact hN6.1, hN6.2.1, fun i hi => by omega, fun c hc => by rw [f7.i (by decide)]; exact hN6.2.2.2.1 c hc, hN6.2.2.2.2.congr (fun c _ => by unfold occM; rw [f7.i (by decide)]) (fun _ _ => ⟨rfl, rfl⟩)⟩
  refine r_iload1 (pc2 := 38) dX12_tellsApart_37 rfl ?_
  refine r_iload2 (pc2 := 39) dX12_tellsApart_38 rfl ?_
  refine r_icne (tgt := 43) (pc2 := 42) dX12_tellsApart_39 rfl (by decide) ⟨by omega, by omega⟩ ⟨by omega, by omega⟩ (fun b_39 => ?_) (fun b_39 => ?_)
  · refine r_aload0 (pc2 := 44) dX12_tellsApart_43 rfl ?_
    refine r_aload0 (pc2 := 45) dX12_tellsApart_44 rfl ?_
    refine r_bipush (pc2 := 47) dX12_tellsApart_45 rfl (by decide) (by decide) ?_
    refine r_cv1 (pc2 := 50) dX12_tellsApart_47 rfl vX12_340 (hK_317 (g7.f.ok hS)) (Nat.le_of_ble_eq_true rfl) (MS_code (d := d + 1) (i := 26) (s := 0) (sh := s) (m5.of e57) (g7.f.ok hS) (by decide) hD hs (fun q hq => ((m5b.of e57c).1 q hq).2.2)) ?_
    rintro _ M8 ⟨rfl, h8⟩
    rw [h8]
    show Go (Ct (d + 3)) _ yX12_tellsApart cX12_tellsApart none 0 0 50 [some (.ref 317), some (.int (iI ((a : Nat) : Int))), some (.int (iI ((b : Nat) : Int))), none, none, none] [.long ((lN (cdN D.1.1 s 156))), .ref 317] M7
    refine r_aload0 (pc2 := 51) dX12_tellsApart_50 rfl ?_
    refine r_bipush (pc2 := 53) dX12_tellsApart_51 rfl (by decide) (by decide) ?_
    refine r_cv1 (pc2 := 56) dX12_tellsApart_53 rfl vX12_340 (hK_317 (g7.f.ok hS)) (Nat.le_of_ble_eq_true rfl) (MS_code (d := d + 1) (i := 27) (s := 1) (sh := t) (n5.of e57) (g7.f.ok hS) (by decide) hE ht (fun q hq => ((n5b.of e57c).1 q hq).2.2)) ?_
    rintro _ M9 ⟨rfl, h9⟩
    rw [h9]
    show Go (Ct (d + 3)) _ yX12_tellsApart cX12_tellsApart none 0 0 56 [some (.ref 317), some (.int (iI ((a : Nat) : Int))), some (.int (iI ((b : Nat) : Int))), none, none, none] [.long ((lN (cdN E.1.1 t 156))), .long ((lN (cdN D.1.1 s 156))), .ref 317] M7
    refine r_iconst (pc2 := 57) dX12_tellsApart_56 rfl ?_
    refine r_iconst (pc2 := 58) dX12_tellsApart_57 rfl ?_
    refine r_sipush (pc2 := 61) dX12_tellsApart_58 rfl (by decide) (by decide) ?_
    refine r_cv5 (pc2 := 64) dX12_tellsApart_61 rfl vX12_350 (hK_317 (g7.f.ok hS)) (by decide) (c_X12_comesUp (d := d + 1) (n := 0) (mo := 3000) (A := fun _ => 0) (B := fun _ => 0) (g7.f.ok hS) hN7 (by omega)) ?_
    rintro _ M11 (⟨hyes, rfl, h11⟩ | ⟨hno, hfull, rfl, h11⟩ | ⟨hno, hroom, rfl, hN11, f11, e340, e341, e317⟩)
    · obtain ⟨j, j1, -⟩ := hyes
      exact absurd j1 (by omega)
    · exact absurd hfull (by omega)
    · have hf11 : frU M7 M11 := frU.cu f11 e317
      have g11 : frT M M11 := g7.tr hf11.t
      have hsz11 : M11.2.1 317 38 = 1 := hN11.1
      show Go (Ct (d + 3)) _ yX12_tellsApart cX12_tellsApart none 0 0 64 [some (.ref 317), some (.int (iI ((a : Nat) : Int))), some (.int (iI ((b : Nat) : Int))), none, none, none] [.int (iI 1)] M11
      refine r_istore3 (pc2 := 65) dX12_tellsApart_64 rfl rfl ?_
      refine r_iconst (pc2 := 66) dX12_tellsApart_65 rfl ?_
      refine r_istore4 (pc2 := 68) dX12_tellsApart_66 rfl rfl ?_
      refine r_iload4 (pc2 := 70) dX12_tellsApart_68 rfl ?_
      refine r_aload0 (pc2 := 71) dX12_tellsApart_70 rfl ?_
      refine r_getI (z := 1) (pc2 := 74) dX12_tellsApart_71 rfl (Or.inl fX12_324) (hK_317 (g11.f.ok hS)) hsz11 ?_
      refine r_icge (tgt := 190) (pc2 := 77) dX12_tellsApart_74 rfl (by decide) ⟨by omega, by omega⟩ ⟨by omega, by omega⟩ (fun h9 => absurd h9 (by decide)) (fun _ => ?_)
      refine r_iconst (pc2 := 78) dX12_tellsApart_77 rfl ?_
      refine r_istore5 (pc2 := 80) dX12_tellsApart_78 rfl rfl ?_
      refine lp_X12_tellsApart (d := d) (F := tlF D E s t) M7 (g7.f.ok hS) (m5.of e57) (n5.of e57) hD hE (by rw [e7, up_at]) (fun M12 M2 hf hf2 hj => ?_) 15000 0 0 1 (fun _ => (s, t)) (fun _ => -1) (fun _ => -1) (va_up (fun _ => 0) 0 (lN (cdN D.1.1 s 156))) (va_up (fun _ => 0) 0 (lN (cdN E.1.1 t 156))) M11 s t (by omega) (by omega) (by omega) hf11 hN11 (by omega) (fun j hj => ?_) ⟨rfl, fun j j1 j2 => by omega⟩ (fun j hj => ?_) hs ht (fun q hq => by rw [f11.i (by decide)]; exact ⟨((m5b.of e57c).1 q hq).2.2, ((n5b.of e57c).1 q hq).2.2⟩) rfl
      · refine ⟨rfl, (g7.tr hf.t).tr (frT.of ((fr.tr (M1 := pI M12 317 44 (tlF D E s t).1) (fr.rf.I (by decide)) (hf2.mono (by decide)))) (fun j hj => ?_)), Or.inr ⟨fun q => b_39 (by omega), by rw [hf2.i (by decide), pI_at], hj⟩⟩
        rw [hf2.i (by decide), pI_nk (by rintro rfl; exact hj (by decide))]
      · obtain rfl : j = 0 := by omega
        rw [up_at, up_at]; exact ⟨rfl, rfl, hs, ht⟩
      · obtain rfl : j = 0 := by omega
        rw [e340, e341, up_at, up_at]; exact ⟨rfl, rfl⟩
  · refine r_ret dX12_tellsApart_42 rfl ?_
    exact ⟨rfl, g7, Or.inl ⟨by omega, by rw [e7, up_at]⟩⟩
