/-! paint as a whole -/
theorem CB.of2 {M M2 : pM} {D : bD} {sh : Nat → Int} {ix : Nat → Nat} (h : CB M D sh ix) (hf : ∀ a, a ∈ [20, 21, 22, 25, 26, 27, 28] → M2.2.1 a = M.2.1 a) (hi : ∀ k, k = 9 ∨ k = 10 → M2.2.1 19 k = M.2.1 19 k) (hj : M2.2.2 19 11 = M.2.2 19 11) : CB M2 D sh ix := by
  unfold CB at h ⊢
  rw [hf 20 (by decide), hf 21 (by decide), hf 22 (by decide), hf 25 (by decide), hf 26 (by decide), hf 27 (by decide), hf 28 (by decide), hi 9 (by omega), hi 10 (by omega), hj]
  exact h
def okP (a k : Nat) : Prop := (a = 19 ∧ (k = 9 ∨ k = 10)) ∨ (20 ≤ a ∧ a ≤ 28) ∨ (a = 29 ∧ 12 ≤ k ∧ k ≤ 15) ∨ (30 ≤ a ∧ a ≤ 39)
def frN (M M2 : pM) : Prop := M2.1 = M.1 ∧ (∀ a k, ¬ okP a k → M2.2.1 a k = M.2.1 a k) ∧ ∀ a k, ¬ ((a = 19 ∧ k = 11) ∨ a = 24 ∨ a = 39 ∨ a = 23) → M2.2.2 a k = M.2.2 a k
theorem frN.tr {M M1 M2 : pM} (h : frN M M1) (h2 : frN M1 M2) : frN M M2 := ⟨h2.1.trans h.1, fun a k q => (h2.2.1 a k q).trans (h.2.1 a k q), fun a k q => (h2.2.2 a k q).trans (h.2.2 a k q)⟩
theorem frN.rf {M : pM} : frN M M := ⟨rfl, fun _ _ _ => rfl, fun _ _ _ => rfl⟩
theorem frN.I {M M1 : pM} {a k : Nat} {z : Int} (h : frN M M1) (ho : okP a k) : frN M (pI M1 a k z) := ⟨h.1, fun b j q => by rw [pI_n9 (by rintro ⟨rfl, rfl⟩; exact q ho)]; exact h.2.1 b j q, h.2.2⟩
theorem frC.n {T : Nat} {M M2 : pM} (h : frC T M M2) : frN M M2 := ⟨h.1, fun a k q => h.2.1 a k (fun c => q (by unfold okP; unfold okC at c; omega)), fun a k q => h.2.2 a k (by omega)⟩
theorem fr.n9 {M M2 : pM} (h : fr [19 + 4, 39, 19 + 5] M M2) : frN M M2 := ⟨h.1, fun a k q => by rw [h.i (by unfold okP at q; simp only [List.mem_cons, List.not_mem_nil, or_false]; omega)], fun a k q => by rw [h.j (by simp only [List.mem_cons, List.not_mem_nil, or_false]; omega)]⟩
def s0Q (D : bD) (sh : Nat → Int) : qS := (D, sh, 0, 0, 0)
def PTq (G : gPr) (D : bD) (sh : Nat → Int) : qS := dos G 20000 0 (gS G) 0 0 0 (s0Q D sh)
theorem s0Q_ok {D : bD} {sh : Nat → Int} (hD : bOk D) (hk : bK D sh) : qOk2 (s0Q D sh) := ⟨⟨hD, hk, by show 0 ≤ 2001; omega, by show 0 ≤ 0; omega, by show (0 : Int) ≤ 0; omega, by show (0 : Int) ≤ 4; omega⟩, fun _ => by show 0 ≤ 2000; omega⟩
theorem PTq_ok {G : gPr} {u ns : Nat → Nat} {D : bD} {sh : Nat → Int} (hP : PV G u ns) (hD : bOk D) (hk : bK D sh) : qOk2 (PTq G D sh) := dos_ok hP _ _ _ _ _ _ _ (Nat.le_refl _) (s0Q_ok hD hk)
theorem CB.cs {M : pM} {D : bD} {sh : Nat → Int} {ix : Nat → Nat} (h : CB M D sh ix) (ht : ∀ p, p < 156 → M.2.1 (19 + 4) p = tal D.1.1 156 p) (hf : ∀ p, p < 156 → 0 ≤ tal D.1.1 156 p → ∀ j, j < 64 → (bl (M.2.2 (19 + 5) p) j = true ↔ ∃ q, q < 156 ∧ D.1.1 q = 4 ∧ tal D.1.1 156 q = tal D.1.1 156 p ∧ j = 4 * ix q)) : CS M 19 D ix :=
  ⟨⟨h.1.1, h.1.2.1, h.1.2.2, ht, fun p hp h4 => hf p hp (by have h9 := tal_A (pc := D.1.1) 156 (Nat.le_refl _); have h8 := h9.2 p hp hp (Or.inl h4); have h7 := h9.1 p; omega), h.2.1.1⟩, h.2.2.2.1, h.2.2.2.2⟩
set_option maxHeartbeats 4000000 in
theorem c_X2_paint {d : Nat} {M : pM} {G : gPr} {u ns : Nat → Nat} {D : bD} {sh : Nat → Int} {ix : Nat → Nat} (hS : sOk M.1) (hG : CG M G) (hP : PV G u ns) (hB : CB M D sh ix) (hD : bOk D) (hk : bK D sh) : Ct (d + 5) 0 0 yX2_paint [.ref 29] M (fun v M2 => v = some (.int (iI (PTq G D sh).2.2.2.2)) ∧ frN M M2 ∧ (∃ ix2, CB M2 (PTq G D sh).1 (PTq G D sh).2.1 ix2 ∧ ((PTq G D sh).2.2.2.2 = 0 → CS M2 19 (PTq G D sh).1 ix2)) ∧ M2.2.1 29 15 = (if (PTq G D sh).2.2.2.2 = 0 then (((PTq G D sh).2.2.2.1 : Nat) : Int) else M.2.1 29 15)) := by
  have h125 := hP.1.1
  have hf : frm G u ns 0 (gS G) 155 := ⟨Nat.le_refl _, fun j j1 j2 => ⟨(hP.2.2.2.2 j j2).2.2.1, (kap_p hP j2).2⟩, Nat.le_refl _⟩
  have hok := PTq_ok hP hD hk
  refine ct_in (d := d + 4) kX2_paint rfl (by decide) (Nat.le_of_ble_eq_true rfl) (by decide) ?_
  show Go (Ct (d + 4)) _ yX2_paint cX2_paint (some .int) 0 0 0 [some (.ref 29), none, none] [] M
  refine r_aload0 (pc2 := 1) dX2_paint_0 rfl ?_
  refine r_iconst (pc2 := 2) dX2_paint_1 rfl ?_
  refine r_putI (z := 0) (pc2 := 5) dX2_paint_2 rfl fX2_51 (w2_12 _) (hK_29 hS) (by decide) ?_
  refine r_aload0 (pc2 := 6) dX2_paint_5 rfl ?_
  refine r_iconst (pc2 := 7) dX2_paint_6 rfl ?_
  refine r_putI (z := 0) (pc2 := 10) dX2_paint_7 rfl fX2_55 (w2_13 _) (hK_29 hS) (by decide) ?_
  refine r_aload0 (pc2 := 11) dX2_paint_10 rfl ?_
  refine r_iconst (pc2 := 12) dX2_paint_11 rfl ?_
  refine r_putI (z := 0) (pc2 := 15) dX2_paint_12 rfl fX2_58 (w2_14 _) (hK_29 hS) (by decide) ?_
  refine r_aload0 (pc2 := 16) dX2_paint_15 rfl ?_
  refine r_iconst (pc2 := 17) dX2_paint_16 rfl ?_
  refine r_aload0 (pc2 := 18) dX2_paint_17 rfl ?_
  refine r_getR (pc2 := 21) dX2_paint_18 rfl fX2_43 (hK_29 hS) (hR_29_0 hS) ?_
  refine r_getI (z := ((gS G : Nat) : Int)) (pc2 := 24) dX2_paint_21 rfl (Or.inl fX2_61) (hK_9 hS) hG.1 ?_
  refine r_iconst (pc2 := 25) dX2_paint_24 rfl ?_
  refine r_cv3 (pc2 := 28) dX2_paint_25 rfl vX2_66 (hK_29 hS) (by decide) (c_X2_beginFrame0 (d := d + 3) (M := (pI (pI (pI M 29 12 0) 29 13 0) 29 14 0)) (e := gS G) hS rfl) ?_
  rintro _ M8 ⟨rfl, f8, g1, g2, g3⟩
  have fN : frN M M8 := ⟨g1, fun a k q => ?_, fun a k q => by rw [g3]; rfl⟩
  have hS8 : sOk M8.1 := fN.1 ▸ hS
  have e15 : M8.2.1 29 15 = M.2.1 29 15 := by rw [g2 29 15 (by omega)]; rfl
  have hG8 : CG M8 G := by
    have e : ∀ a, 9 ≤ a → a ≤ 18 → M8.2.1 a = M.2.1 a := fun a a1 a2 => funext (fun k => fN.2.1 a k (by unfold okP; omega))
    have e2 : M8.2.2 16 = M.2.2 16 := by rw [g3]; rfl
    unfold CG at hG ⊢
    rw [e 9 (by omega) (by omega), e 10 (by omega) (by omega), e 11 (by omega) (by omega), e 12 (by omega) (by omega), e 13 (by omega) (by omega), e 14 (by omega) (by omega), e 15 (by omega) (by omega), e 17 (by omega) (by omega), e 18 (by omega) (by omega), e2]
    exact hG
  have hQ8 : CQ M8 (s0Q D sh) ix := ⟨CB.of hB (fun a a1 a2 => funext (fun k => by rw [g2 a k (by omega), pI_ne (by omega), pI_ne (by omega), pI_ne (by omega)])) (fun k hk => by rw [g2 19 k (by omega)]; rfl) (by rw [g3]; rfl), by rw [g2 29 13 (by omega)]; rfl, by rw [g2 29 14 (by omega)]; rfl⟩
  show Go (Ct (d + 4)) _ yX2_paint cX2_paint (some .int) 0 0 28 [some (.ref 29), none, none] [] M8
  refine r_iconst (pc2 := 29) dX2_paint_28 rfl ?_
  refine r_istore1 (pc2 := 30) dX2_paint_29 rfl rfl ?_
  refine r_iconst (pc2 := 31) dX2_paint_30 rfl ?_
  refine r_istore2 (pc2 := 32) dX2_paint_31 rfl rfl ?_
  show pG0 d _ M8 0
  refine pt_all hP 20000 155 0 (gS G) 0 1 0 1 0 0 0 0 0 0 (s0Q D sh) ix M8 hS8 hG8 hQ8 (s0Q_ok hD hk) rfl f8 hf ⟨by omega, by omega, by omega⟩ (Or.inl rfl) (by unfold dxB; omega) (by unfold dxB; omega) (by show 0 + 1 + 13 * (2001 - 0) ≤ 26014; omega) (fun M2 ix2 turn i q1 q2 q3 q4 q5 q6 q7 q8 => ?_) (fun M2 ix2 q1 q2 q3 => ⟨rfl, fN.tr q3.n, ⟨ix2, q1.1, fun w => absurd w q2⟩, ?_⟩)
  · have hS2 := q3.ok hS8
    have hF2 : FT M2 0 i 0 (gS G) 1 0 0 0 0 0 := f8.fc q3 q4 q5
    show Go (Ct (d + 4)) _ yX2_paint cX2_paint (some .int) 0 0 32 [some (.ref 29), some (.int (iI 0)), some (.int (iI ((turn : Nat) : Int)))] [] M2
    refine r_iload2 (pc2 := 33) dX2_paint_32 rfl ?_
    refine r_sipush (pc2 := 36) dX2_paint_33 rfl (by decide) (by decide) ?_
    refine r_icge (tgt := 98) (pc2 := 39) dX2_paint_36 rfl (by decide) ⟨by omega, by omega⟩ ⟨by omega, by omega⟩ (fun b_36 => ?_) (fun b_36 => ?_)
    · exact absurd b_36 (by omega)
    · refine r_aload0 (pc2 := 40) dX2_paint_39 rfl ?_
      refine r_getI (z := 0) (pc2 := 43) dX2_paint_40 rfl (Or.inl fX2_51) (hK_29 hS2) hF2.1 ?_
      refine r_iflt (tgt := 98) (pc2 := 46) dX2_paint_43 rfl (by decide) ⟨by omega, by omega⟩ (fun h9 => absurd h9 (by decide)) (fun _ => ?_)
      refine r_iload1 (pc2 := 47) dX2_paint_46 rfl ?_
      refine r_ifne (tgt := 98) (pc2 := 50) dX2_paint_47 rfl (by decide) ⟨by omega, by omega⟩ (fun h9 => absurd h9 (by decide)) (fun _ => ?_)
      refine r_aload0 (pc2 := 51) dX2_paint_50 rfl ?_
      refine r_getR (pc2 := 54) dX2_paint_51 rfl fX2_11 (hK_29 hS2) (hR_29_2 hS2) ?_
      refine r_aload0 (pc2 := 55) dX2_paint_54 rfl ?_
      refine r_getI (z := 0) (pc2 := 58) dX2_paint_55 rfl (Or.inl fX2_51) (hK_29 hS2) hF2.1 ?_
      refine r_iald (z := ((i : Nat) : Int)) (pc2 := 59) dX2_paint_58 rfl (hK_30 hS2) 0 rfl (by omega) hF2.2.1 ?_
      refine r_aload0 (pc2 := 60) dX2_paint_59 rfl ?_
      refine r_getR (pc2 := 63) dX2_paint_60 rfl fX2_18 (hK_29 hS2) (hR_29_4 hS2) ?_
      refine r_aload0 (pc2 := 64) dX2_paint_63 rfl ?_
      refine r_getI (z := 0) (pc2 := 67) dX2_paint_64 rfl (Or.inl fX2_51) (hK_29 hS2) hF2.1 ?_
      refine r_iald (z := ((gS G : Nat) : Int)) (pc2 := 68) dX2_paint_67 rfl (hK_32 hS2) 0 rfl (by omega) hF2.2.2.2.1 ?_
      refine r_iclt (tgt := 78) (pc2 := 71) dX2_paint_68 rfl (by decide) ⟨by omega, by omega⟩ ⟨by omega, by omega⟩ (fun b_68 => ?_) (fun b_68 => ?_)
      · exact absurd b_68 (by omega)
      · refine r_aload0 (pc2 := 72) dX2_paint_71 rfl ?_
        refine r_cv0 (pc2 := 75) dX2_paint_72 rfl vX2_70 (hK_29 hS2) (by decide) (c_X2_endTime0 (d := d + 3) hS2 hF2) ?_
        rintro _ M7 ⟨rfl, h7⟩
        have hS7 : sOk M7.1 := by rw [h7]; exact hS2
        show Go (Ct (d + 4)) _ yX2_paint cX2_paint (some .int) 0 0 75 [some (.ref 29), some (.int (iI 0)), some (.int (iI ((turn : Nat) : Int)))] [] M7
        refine r_goto (tgt := 92) dX2_paint_75 (by decide) ?_
        refine r_iinc2 (z := ((turn + 1 : Nat) : Int)) (pc2 := 95) dX2_paint_92 rfl (by omega) rfl ?_
        refine r_goto (tgt := 32) dX2_paint_95 (by decide) ?_
        refine r_iload2 (pc2 := 33) dX2_paint_32 rfl ?_
        refine r_sipush (pc2 := 36) dX2_paint_33 rfl (by decide) (by decide) ?_
        refine r_icge (tgt := 98) (pc2 := 39) dX2_paint_36 rfl (by decide) ⟨by omega, by omega⟩ ⟨by omega, by omega⟩ (fun b_36 => ?_) (fun b_36 => ?_)
        · refine r_iload1 (pc2 := 99) dX2_paint_98 rfl ?_
          refine r_ifne (tgt := 121) (pc2 := 102) dX2_paint_99 rfl (by decide) ⟨by omega, by omega⟩ (fun h9 => absurd h9 (by decide)) (fun _ => ?_)
          refine r_aload0 (pc2 := 103) dX2_paint_102 rfl ?_
          refine r_getR (pc2 := 106) dX2_paint_103 rfl fX2_47 (hK_29 hS7) (hR_29_1 hS7) ?_
          refine r_aload0 (pc2 := 107) dX2_paint_106 rfl ?_
          refine r_getR (pc2 := 110) dX2_paint_107 rfl fX2_40 (hK_29 hS7) (hR_29_11 hS7) ?_
          have b7 : CB M7 (PTq G D sh).1 (PTq G D sh).2.1 ix2 := CB.of q1.1 (fun a a1 a2 => by rw [h7, pI_ne (by omega), pI_ne (by omega)]) (fun k hk => by rw [h7, pI_ne (by decide), pI_ne (by decide)]) (by rw [h7]; rfl)
          refine r_cv1 (pc2 := 113) dX2_paint_110 rfl vX2_77 (hK_19 hS7) (by decide) (c_X0_linkTrains (d := d + 1) (b := 19) (pc := (PTq G D sh).1.1.1) (ix := ix2) hS7 isB_19 (fun p hp => ⟨b7.1.1 p hp, bK_pc hok.1.2.1 p hp⟩) (fun p hp => ⟨b7.1.2.2 p hp, b7.2.1.1.1 p hp⟩)) ?_
          rintro _ M6 ⟨rfl, h6, t6, u6⟩
          have hS6 := h6.ok hS7
          show Go (Ct (d + 4)) _ yX2_paint cX2_paint (some .int) 0 0 113 [some (.ref 29), some (.int (iI 0)), some (.int (iI ((turn + 1 : Nat) : Int)))] [] M6
          refine r_aload0 (pc2 := 114) dX2_paint_113 rfl ?_
          refine r_aload0 (pc2 := 115) dX2_paint_114 rfl ?_
          refine r_getI (z := (((PTq G D sh).2.2.2.1 : Nat) : Int)) (pc2 := 118) dX2_paint_115 rfl (Or.inl fX2_58) (hK_29 hS6) (by rw [h6.i (by decide), h7, pI_nk (by decide), pI_ne (by decide)]; exact q1.2.2) ?_
          refine r_putI (z := (((PTq G D sh).2.2.2.1 : Nat) : Int)) (pc2 := 121) dX2_paint_118 rfl fX2_83 (w2_15 _) (hK_29 hS6) (by decide) ?_
          refine r_iload1 (pc2 := 122) dX2_paint_121 rfl ?_
          refine r_ireti dX2_paint_122 rfl ?_
          have hre : (PTq G D sh).2.2.2.2 = 0 := q2
          have b6 : CB M6 (PTq G D sh).1 (PTq G D sh).2.1 ix2 := b7.of2 (fun a ha => h6.i (by revert ha; simp only [List.mem_cons, List.not_mem_nil, or_false]; omega)) (fun k hk => by rw [h6.i (by decide)]) (by rw [h6.j (by decide)])
          have f7 : frN M2 M7 := by rw [h7]; exact (frN.rf.I (by unfold okP; omega)).I (by unfold okP; omega)
          have b5 := b6.of2 (M2 := pI M6 29 15 (((PTq G D sh).2.2.2.1 : Nat) : Int)) (fun a ha => by rw [pI_ne (by revert ha; simp only [List.mem_cons, List.not_mem_nil, or_false]; omega)]) (fun k hk => by rw [pI_ne (by decide)]) rfl
          refine ⟨by rw [hre], (fN.tr (q3.n.tr (f7.tr (fr.n9 h6)))).I (by unfold okP; omega), ⟨ix2, b5, fun _ => b5.cs (fun p hp => ?_) (fun p hp => ?_)⟩, ?_⟩
          · rw [pI_ne (by decide)]; exact t6 p hp
          · exact u6 p hp
          · rw [if_pos hre]; exact pI_at
        · refine r_aload0 (pc2 := 40) dX2_paint_39 rfl ?_
          refine r_getI (z := (-1)) (pc2 := 43) dX2_paint_40 rfl (Or.inl fX2_51) (hK_29 hS7) (by rw [h7]; exact pI_at) ?_
          refine r_iflt (tgt := 98) (pc2 := 46) dX2_paint_43 rfl (by decide) ⟨by omega, by omega⟩ (fun _ => ?_) (fun h9 => absurd h9 (by decide))
          refine r_iload1 (pc2 := 99) dX2_paint_98 rfl ?_
          refine r_ifne (tgt := 121) (pc2 := 102) dX2_paint_99 rfl (by decide) ⟨by omega, by omega⟩ (fun h9 => absurd h9 (by decide)) (fun _ => ?_)
          refine r_aload0 (pc2 := 103) dX2_paint_102 rfl ?_
          refine r_getR (pc2 := 106) dX2_paint_103 rfl fX2_47 (hK_29 hS7) (hR_29_1 hS7) ?_
          refine r_aload0 (pc2 := 107) dX2_paint_106 rfl ?_
          refine r_getR (pc2 := 110) dX2_paint_107 rfl fX2_40 (hK_29 hS7) (hR_29_11 hS7) ?_
          have b7 : CB M7 (PTq G D sh).1 (PTq G D sh).2.1 ix2 := CB.of q1.1 (fun a a1 a2 => by rw [h7, pI_ne (by omega), pI_ne (by omega)]) (fun k hk => by rw [h7, pI_ne (by decide), pI_ne (by decide)]) (by rw [h7]; rfl)
          refine r_cv1 (pc2 := 113) dX2_paint_110 rfl vX2_77 (hK_19 hS7) (by decide) (c_X0_linkTrains (d := d + 1) (b := 19) (pc := (PTq G D sh).1.1.1) (ix := ix2) hS7 isB_19 (fun p hp => ⟨b7.1.1 p hp, bK_pc hok.1.2.1 p hp⟩) (fun p hp => ⟨b7.1.2.2 p hp, b7.2.1.1.1 p hp⟩)) ?_
          rintro _ M6 ⟨rfl, h6, t6, u6⟩
          have hS6 := h6.ok hS7
          show Go (Ct (d + 4)) _ yX2_paint cX2_paint (some .int) 0 0 113 [some (.ref 29), some (.int (iI 0)), some (.int (iI ((turn + 1 : Nat) : Int)))] [] M6
          refine r_aload0 (pc2 := 114) dX2_paint_113 rfl ?_
          refine r_aload0 (pc2 := 115) dX2_paint_114 rfl ?_
          refine r_getI (z := (((PTq G D sh).2.2.2.1 : Nat) : Int)) (pc2 := 118) dX2_paint_115 rfl (Or.inl fX2_58) (hK_29 hS6) (by rw [h6.i (by decide), h7, pI_nk (by decide), pI_ne (by decide)]; exact q1.2.2) ?_
          refine r_putI (z := (((PTq G D sh).2.2.2.1 : Nat) : Int)) (pc2 := 121) dX2_paint_118 rfl fX2_83 (w2_15 _) (hK_29 hS6) (by decide) ?_
          refine r_iload1 (pc2 := 122) dX2_paint_121 rfl ?_
          refine r_ireti dX2_paint_122 rfl ?_
          have hre : (PTq G D sh).2.2.2.2 = 0 := q2
          have b6 : CB M6 (PTq G D sh).1 (PTq G D sh).2.1 ix2 := b7.of2 (fun a ha => h6.i (by revert ha; simp only [List.mem_cons, List.not_mem_nil, or_false]; omega)) (fun k hk => by rw [h6.i (by decide)]) (by rw [h6.j (by decide)])
          have f7 : frN M2 M7 := by rw [h7]; exact (frN.rf.I (by unfold okP; omega)).I (by unfold okP; omega)
          have b5 := b6.of2 (M2 := pI M6 29 15 (((PTq G D sh).2.2.2.1 : Nat) : Int)) (fun a ha => by rw [pI_ne (by revert ha; simp only [List.mem_cons, List.not_mem_nil, or_false]; omega)]) (fun k hk => by rw [pI_ne (by decide)]) rfl
          refine ⟨by rw [hre], (fN.tr (q3.n.tr (f7.tr (fr.n9 h6)))).I (by unfold okP; omega), ⟨ix2, b5, fun _ => b5.cs (fun p hp => ?_) (fun p hp => ?_)⟩, ?_⟩
          · rw [pI_ne (by decide)]; exact t6 p hp
          · exact u6 p hp
          · rw [if_pos hre]; exact pI_at
  · have q2 : ¬ (PTq G D sh).2.2.2.2 = 0 := q2
    rw [if_neg q2, q3.2.1 29 15 (by unfold okC; omega)]; exact e15
  · rw [g2 a k (by unfold okP at q; omega), pI_n9 (by unfold okP at q; omega), pI_n9 (by unfold okP at q; omega), pI_n9 (by unfold okP at q; omega)]
