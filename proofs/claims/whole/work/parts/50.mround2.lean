/-! comesRound as a whole; boards 26 and 27 are for trying -/
def frT (M M2 : pM) : Prop := fr [317, 328, 329, 330, 331, 332, 333, 334, 335, 336, 338, 339, 340, 341, 342, 344] M M2 ∧ (∀ j, j ∉ [38, 40, 41, 44] → M2.2.1 317 j = M.2.1 317 j) ∧ (∀ j, j < 4056 → M2.2.1 328 j = M.2.1 328 j ∧ M2.2.1 329 j = M.2.1 329 j ∧ M2.2.1 330 j = M.2.1 330 j) ∧ (∀ j, j < 338 → M2.2.1 331 j = M.2.1 331 j) ∧ ∀ j, j < 104 → M2.2.1 332 j = M.2.1 332 j ∧ M2.2.1 333 j = M.2.1 333 j ∧ M2.2.1 334 j = M.2.1 334 j
theorem frT.tr {M M1 M2 : pM} (h : frT M M1) (h2 : frT M1 M2) : frT M M2 :=
  ⟨h.1.tr h2.1, fun j hj => (h2.2.1 j hj).trans (h.2.1 j hj), fun j hj => ⟨(h2.2.2.1 j hj).1.trans (h.2.2.1 j hj).1, (h2.2.2.1 j hj).2.1.trans (h.2.2.1 j hj).2.1, (h2.2.2.1 j hj).2.2.trans (h.2.2.1 j hj).2.2⟩, fun j hj => (h2.2.2.2.1 j hj).trans (h.2.2.2.1 j hj), fun j hj => ⟨(h2.2.2.2.2 j hj).1.trans (h.2.2.2.2 j hj).1, (h2.2.2.2.2 j hj).2.1.trans (h.2.2.2.2 j hj).2.1, (h2.2.2.2.2 j hj).2.2.trans (h.2.2.2.2 j hj).2.2⟩⟩
theorem frT.cp {M M2 : pM} {s t : Nat} (h : mCp M M2 s t) (ht : 26 ≤ t) : frT M M2 := by
  obtain ⟨h0, h1, h2, h3, h4, h5, h6, h7⟩ := h
  refine ⟨h0.mono (by decide), fun j _ => by rw [h0.i (by decide)], fun j hj => ⟨?_, ?_, ?_⟩, fun j hj => ?_, fun j hj => ⟨?_, ?_, ?_⟩⟩
  · rw [h1, sB_out (by omega)]
  · rw [h2, sB_out (by omega)]
  · rw [h3, sB_out (by omega)]
  · rw [h4, sB_out (by omega)]
  · rw [h5, sB_out (by omega)]
  · rw [h6, sB_out (by omega)]
  · rw [h7, sB_out (by omega)]
theorem frT.of {M M2 : pM} (h : fr [317, 335, 336, 338, 339, 340, 341, 342, 344] M M2) (h2 : ∀ j, j ∉ [38, 40, 41, 44] → M2.2.1 317 j = M.2.1 317 j) : frT M M2 :=
  ⟨h.mono (by decide), h2, fun j _ => ⟨by rw [h.i (by decide)], by rw [h.i (by decide)], by rw [h.i (by decide)]⟩, fun j _ => by rw [h.i (by decide)], fun j _ => ⟨by rw [h.i (by decide)], by rw [h.i (by decide)], by rw [h.i (by decide)]⟩⟩
theorem frT.sh {M M2 : pM} {b : Nat} {sh : Nat → Int} (h : fr [317, 330, 338, 339, 340, 341, 342] M M2) (h2 : ∀ j, j ∉ [38, 40, 41, 44] → M2.2.1 317 j = M.2.1 317 j) (h3 : ∀ j, j < 4056 → M2.2.1 330 j = M.2.1 330 j) : frT M M2 :=
  ⟨h.mono (by decide), h2, fun j hj => ⟨by rw [h.i (by decide)], by rw [h.i (by decide)], h3 j hj⟩, fun j _ => by rw [h.i (by decide)], fun j _ => ⟨by rw [h.i (by decide)], by rw [h.i (by decide)], by rw [h.i (by decide)]⟩⟩
set_option maxHeartbeats 4000000 in
theorem c_X12_comesRound {d : Nat} {M : pM} {h : Nat} {pc sz sh kd lv : Nat → Int} {co : Nat → Nat} (hS : sOk M.1) (hP : ∀ p, p < 156 → gB (M.2.1 328) 156 0 p = pc p ∧ 0 ≤ pc p ∧ pc p ≤ 9) (hZ : ∀ p, p < 156 → gB (M.2.1 329) 156 0 p = sz p) (hH : ∀ p, p < 156 → gB (M.2.1 330) 156 0 p = sh p) (hc : mvc pc 156 ≤ 16) (hkd : ∀ h, h < 4 → gB (M.2.1 333) 4 0 h = kd h ∧ inR (kd h)) (hco : ∀ h, h < 4 → gB (M.2.1 332) 4 0 h = ((co h : Nat) : Int) ∧ co h < 13) (hlv : ∀ x, x < 13 → gB (M.2.1 331) 13 0 x = lv x ∧ -1 ≤ lv x ∧ lv x < 4) (hh : h < 4) (hk : Ksh pc sz sh) : Ct (d + 4) 0 0 yX12_comesRound [.ref 317, .int (iI ((h : Nat) : Int))] M (fun v M2 => ∃ a b, rnd (stp pc sz (tal pc 156) kd co lv) 4001 0 (fun _ => (sh, h)) (sh, h) a b ∧ frT M M2 ∧ (a = -1 ∧ b = -1 ∧ v = some (.int (iI 0)) ∨ v = some (.int (iI 1)) ∧ M2.2.1 317 40 = a ∧ M2.2.1 317 41 = b)) := by
  refine ct_in (d := (d + 3)) kX12_comesRound rfl (by decide) (Nat.le_of_ble_eq_true rfl) (by decide) ?_
  show Go (Ct (d + 3)) _ yX12_comesRound cX12_comesRound (some .boolean) 0 0 0 [some (.ref 317), some (.int (iI ((h : Nat) : Int))), none, none, none, none, none, none] [] M
  refine r_aload0 (pc2 := 1) dX12_comesRound_0 rfl ?_
  refine r_iconst (pc2 := 2) dX12_comesRound_1 rfl ?_
  refine r_bipush (pc2 := 4) dX12_comesRound_2 rfl (by decide) (by decide) ?_
  refine r_cv2 (pc2 := 7) dX12_comesRound_4 rfl vX12_256 (hK_317 hS) (by decide) (c_X12_copies (d := d + 2) (s := 0) (t := 26) hS (by decide) (by decide)) ?_
  rintro _ M1 ⟨rfl, hc1⟩
  have hf1 := frT.cp hc1 (Nat.le_refl _)
  obtain ⟨c0, c1, c2, c3, c4, c5, c6, c7⟩ := hc1
  have hP1 : ∀ p, p < 156 → M1.2.1 328 (156 * 26 + p) = pc p := fun p hp => by rw [c1, sB_in hp]; exact (hP p hp).1
  show Go (Ct (d + 3)) _ yX12_comesRound cX12_comesRound (some .boolean) 0 0 7 [some (.ref 317), some (.int (iI ((h : Nat) : Int))), none, none, none, none, none, none] [] M1
  refine r_aload0 (pc2 := 8) dX12_comesRound_7 rfl ?_
  refine r_bipush (pc2 := 10) dX12_comesRound_8 rfl (by decide) (by decide) ?_
  refine r_iconst (pc2 := 11) dX12_comesRound_10 rfl ?_
  refine r_cv2 (pc2 := 14) dX12_comesRound_11 rfl vX12_309 (hK_317 (hf1.1.ok hS)) (by decide) (c_X12_findTrains (d := d + 1) (b := 26) (sl := 0) (pc := pc) (hf1.1.ok hS) (by decide) (by decide) (fun p hp => ⟨hP1 p hp, (hP p hp).2⟩)) ?_
  rintro _ M3 ⟨rfl, f2, e335⟩
  have hf3 : frT M M3 := hf1.tr (frT.of (f2.mono (by decide)) (fun j _ => by rw [f2.i (by decide)]))
  show Go (Ct (d + 3)) _ yX12_comesRound cX12_comesRound (some .boolean) 0 0 14 [some (.ref 317), some (.int (iI ((h : Nat) : Int))), none, none, none, none, none, none] [] M3
  refine r_aload0 (pc2 := 15) dX12_comesRound_14 rfl ?_
  refine r_cv0 (pc2 := 18) dX12_comesRound_15 rfl vX12_337 (hK_317 (hf3.1.ok hS)) (by decide) (c_X12_begins (d := d + 2) (A := fun _ => 0) (B := fun _ => 0) (hf3.1.ok hS)) ?_
  rintro _ M4 ⟨rfl, f4, e317, hN4⟩
  have hf4 : frT M M4 := hf3.tr (frT.of (f4.mono (by decide)) (fun j hj => by rw [e317, up_ne (by rintro rfl; exact hj (by decide))]))
  show Go (Ct (d + 3)) _ yX12_comesRound cX12_comesRound (some .boolean) 0 0 18 [some (.ref 317), some (.int (iI ((h : Nat) : Int))), none, none, none, none, none, none] [] M4
  refine r_iload1 (pc2 := 19) dX12_comesRound_18 rfl ?_
  refine r_istore2 (pc2 := 20) dX12_comesRound_19 rfl rfl ?_
  refine r_iconst (pc2 := 21) dX12_comesRound_20 rfl ?_
  refine r_istore3 (pc2 := 22) dX12_comesRound_21 rfl rfl ?_
  refine lp_X12_comesRound (d := d) (R := fun a b => rnd (stp pc sz (tal pc 156) kd co lv) 4001 0 (fun _ => (sh, h)) (sh, h) a b) (pc := pc) (sz := sz) (tr := tal pc 156) (kd := kd) (co := co) (lv := lv) M4 (hf4.1.ok hS) (fun p hp => by rw [f4.i (by decide), f2.i (by decide)]; exact hP1 p hp) (fun p hp => by rw [f4.i (by decide), f2.i (by decide)]; rw [c2, sB_in hp]; exact hZ p hp) (fun p hp => ?_) hc (fun x hx => ⟨by rw [f4.i (by decide), f2.i (by decide)]; rw [c6, sB_in hx]; exact (hkd x hx).1, (hkd x hx).2⟩) (fun x hx => ⟨by rw [f4.i (by decide), f2.i (by decide)]; rw [c5, sB_in hx]; exact (hco x hx).1, (hco x hx).2⟩) (fun x hx => ⟨by rw [f4.i (by decide), f2.i (by decide)]; rw [c4]; rw [show 338 + x = 13 * 26 + x by omega, sB_in hx]; exact (hlv x hx).1, (hlv x hx).2⟩) (fun M5 M2 r a b hr hf h317 h330 hM => ?_) 4001 0 (sh, h) (fun _ => (sh, h)) (fun _ => 0) (fun _ => 0) M4 _ _ _ (by omega) fr.rf (fun _ _ => rfl) ?_ hN4 (fun i hi => by omega) hh hk (fun a b h9 => h9)
  · rw [f4.i (by decide), e335, sB_in hp]
    refine ⟨rfl, ?_⟩
    have := (tal_A (pc := pc) 156 (Nat.le_refl _)).1 p
    omega
  · obtain ⟨s9, h330⟩ := h330
    have hf5 : frT M M5 := hf4.tr (frT.sh (b := 26) (sh := s9) hf (fun j hj => h317 j (by rintro rfl; exact hj (by decide))) (fun j hj => by rw [h330, sB_out (by omega)]))
    rcases hM with ⟨rfl, ha, hb, rfl⟩ | ⟨rfl, rfl⟩
    · exact ⟨a, b, hr, hf5, Or.inl ⟨ha, hb, rfl⟩⟩
    · refine ⟨a, b, hr, hf5.tr ⟨(fr.rf.I (by decide)).I (by decide), fun j hj => ?_, fun j _ => ⟨rfl, rfl, rfl⟩, fun j _ => rfl, fun j _ => ⟨rfl, rfl, rfl⟩⟩, Or.inr ⟨rfl, rfl, rfl⟩⟩
      show va_up (va_up (M5.2.1 317) 40 a) 41 b j = _
      rw [up_ne (by rintro rfl; exact hj (by decide)), up_ne (by rintro rfl; exact hj (by decide))]
  · refine sB_of (fun p hp => ?_)
    rw [f4.i (by decide), f2.i (by decide)]
    rw [c3, sB_in hp]; exact hH p hp
