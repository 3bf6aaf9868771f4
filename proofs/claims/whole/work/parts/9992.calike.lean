/-! alike and telling of the class as a whole -/
set_option maxHeartbeats 4000000 in
theorem c_X11_isFilled {d : Nat} {M : pM} {z : Int} {lf : Nat → Int} (hS : sOk M.1) (hzr : inR z) (hl : ∀ s, s < 4 → M.2.1 253 s = lf s ∧ 0 ≤ lf s ∧ lf s ≤ 1) : Ct (d + 1) 0 0 yX11_isFilled [.ref 2, .int (iI z)] M (fun v M2 => v = some (.int (iI (if ldP lf z then 1 else 0))) ∧ M2 = M) := by
  refine ct_in (d := d) kX11_isFilled rfl (by decide) (Nat.le_of_ble_eq_true rfl) (by decide) ?_
  show Go (Ct d) _ yX11_isFilled cX11_isFilled (some .boolean) 0 0 0 [some (.ref 2), some (.int (iI z))] [] M
  unfold inR at hzr
  have hl9 : 0 ≤ z → z < 4 → 0 ≤ lf z.toNat ∧ lf z.toNat ≤ 1 := fun q1 q2 => (hl z.toNat (by omega)).2
  refine r_iload1 (pc2 := 1) dX11_isFilled_0 rfl ?_
  refine r_iflt (tgt := 22) (pc2 := 4) dX11_isFilled_1 rfl (by decide) ⟨by omega, by omega⟩ (fun b_1 => ?_) (fun b_1 => ?_)
  · refine r_iconst (pc2 := 23) dX11_isFilled_22 rfl ?_
    refine r_iretz dX11_isFilled_23 rfl (by omega) ?_
    exact ⟨by rw [if_neg (fun q => by have := q.1; omega)], rfl⟩
  · refine r_iload1 (pc2 := 5) dX11_isFilled_4 rfl ?_
    refine r_iconst (pc2 := 6) dX11_isFilled_5 rfl ?_
    refine r_icge (tgt := 22) (pc2 := 9) dX11_isFilled_6 rfl (by decide) ⟨by omega, by omega⟩ ⟨by omega, by omega⟩ (fun b_6 => ?_) (fun b_6 => ?_)
    · refine r_iconst (pc2 := 23) dX11_isFilled_22 rfl ?_
      refine r_iretz dX11_isFilled_23 rfl (by omega) ?_
      exact ⟨by rw [if_neg (fun q => by have := q.1; omega)], rfl⟩
    · refine r_aload0 (pc2 := 10) dX11_isFilled_9 rfl ?_
      refine r_getR (pc2 := 13) dX11_isFilled_10 rfl fX11_52 (hK_2 hS) (hR_2_6 hS) ?_
      refine r_iload1 (pc2 := 14) dX11_isFilled_13 rfl ?_
      refine r_zald (z := (lf z.toNat)) (pc2 := 15) dX11_isFilled_14 rfl (hK_253 hS) (z).toNat (by omega) (by omega) (hl z.toNat (by omega)).1 ?_
      refine r_ifeq (tgt := 22) (pc2 := 18) dX11_isFilled_15 rfl (by decide) ⟨by omega, by omega⟩ (fun b_15 => ?_) (fun b_15 => ?_)
      · refine r_iconst (pc2 := 23) dX11_isFilled_22 rfl ?_
        refine r_iretz dX11_isFilled_23 rfl (by omega) ?_
        exact ⟨by rw [if_neg (fun q => by have := q.2; omega)], rfl⟩
      · refine r_iconst (pc2 := 19) dX11_isFilled_18 rfl ?_
        refine r_goto (tgt := 23) dX11_isFilled_19 (by decide) ?_
        refine r_iretz dX11_isFilled_23 rfl (by omega) ?_
        exact ⟨by rw [if_pos ⟨⟨by omega, by omega⟩, by omega⟩], rfl⟩
set_option maxHeartbeats 4000000 in
theorem c_X11_compareShelves {d : Nat} {M : pM} {sa sb : Nat} {B : Nat → bS} {lf : Nat → Int} (hS : sOk M.1) (hl : ∀ s, s < 4 → M.2.1 253 s = lf s ∧ 0 ≤ lf s ∧ lf s ≤ 1) (hcf : ∀ s, s < 4 → lf s = 1 → ∃ ix, CF M (277 + 10 * s) (B (1 + s)) ix) (hok : ∀ s, s < 4 → lf s = 1 → bOk (B (1 + s)).1 ∧ bK (B (1 + s)).1 (B (1 + s)).2) (hSr : SNr M) (hT : CTl M B) (ha : sa < 4) (hb : sb < 4) (hab : sa ≠ sb) (la : lf sa = 1) (lb : lf sb = 1) : Ct (d + 6) 0 0 yX11_compareShelves [.ref 2, .int (iI ((sa : Nat) : Int)), .int (iI ((sb : Nat) : Int))] M (fun v M2 => v = none ∧ tlV M2 B sa sb ∧ frX sa sb M M2 ∧ SNr M2) := by
  refine ct_in (d := (d + 5)) kX11_compareShelves rfl (by decide) (Nat.le_of_ble_eq_true rfl) (by decide) ?_
  show Go (Ct (d + 5)) _ yX11_compareShelves cX11_compareShelves none 0 0 0 [some (.ref 2), some (.int (iI ((sa : Nat) : Int))), some (.int (iI ((sb : Nat) : Int)))] [] M
  obtain ⟨ix, hX⟩ := hcf sa ha la
  obtain ⟨jx, hY⟩ := hcf sb hb lb
  refine r_aload0 (pc2 := 1) dX11_compareShelves_0 rfl ?_
  refine r_getR (pc2 := 4) dX11_compareShelves_1 rfl fX11_80 (hK_2 hS) (hR_2_10 hS) ?_
  refine r_aload0 (pc2 := 5) dX11_compareShelves_4 rfl ?_
  refine r_getR (pc2 := 8) dX11_compareShelves_5 rfl fX11_48 (hK_2 hS) (hR_2_5 hS) ?_
  refine r_iload1 (pc2 := 9) dX11_compareShelves_8 rfl ?_
  refine r_iload2 (pc2 := 10) dX11_compareShelves_9 rfl ?_
  refine r_aload0 (pc2 := 11) dX11_compareShelves_10 rfl ?_
  refine r_getR (pc2 := 14) dX11_compareShelves_11 rfl fX11_66 (hK_2 hS) (hR_2_8 hS) ?_
  refine r_cv4 (pc2 := 17) dX11_compareShelves_14 rfl vX11_274 (hK_264 hS) (by decide) (c_X9_look (d := d) hS ha hb hab hX hY (hok sa ha la) (hok sb hb lb) hSr hT) ?_
  rintro _ M1 ⟨rfl, q⟩
  show Go (Ct (d + 5)) _ yX11_compareShelves cX11_compareShelves none 0 0 17 [some (.ref 2), some (.int (iI ((sa : Nat) : Int))), some (.int (iI ((sb : Nat) : Int)))] [] M1
  refine r_ret dX11_compareShelves_17 rfl ?_
  exact ⟨rfl, q⟩
set_option maxHeartbeats 4000000 in
theorem c_X11_alike {d : Nat} {M : pM} {a b : Int} {B : Nat → bS} {lf : Nat → Int} (hS : sOk M.1) (hl : ∀ s, s < 4 → M.2.1 253 s = lf s ∧ 0 ≤ lf s ∧ lf s ≤ 1) (hcf : ∀ s, s < 4 → lf s = 1 → ∃ ix, CF M (277 + 10 * s) (B (1 + s)) ix) (hok : ∀ s, s < 4 → lf s = 1 → bOk (B (1 + s)).1 ∧ bK (B (1 + s)).1 (B (1 + s)).2) (hSr : SNr M) (hT : CTl M B) (har : inR a) (hbr : inR b) : Ct (d + 7) 0 0 yX11_alike [.ref 2, .int (iI a), .int (iI b)] M (fun v M2 => (¬ (ldP lf a ∧ ldP lf b) ∧ v = some (.int (iI (-1))) ∧ M2 = M) ∨ (ldP lf a ∧ ldP lf b) ∧ v = some (.int (iI ((tlR (B (1 + a.toNat)) (B (1 + b.toNat)) a.toNat b.toNat).1))) ∧ (M2 = M ∨ tlV M2 B a.toNat b.toNat ∧ frX a.toNat b.toNat M M2 ∧ SNr M2)) := by
  refine ct_in (d := (d + 6)) kX11_alike rfl (by decide) (Nat.le_of_ble_eq_true rfl) (by decide) ?_
  show Go (Ct (d + 6)) _ yX11_alike cX11_alike (some .int) 0 0 0 [some (.ref 2), some (.int (iI a)), some (.int (iI b))] [] M
  have har2 := har
  have hbr2 := hbr
  unfold inR at har2 hbr2
  refine r_aload0 (pc2 := 1) dX11_alike_0 rfl ?_
  refine r_iload1 (pc2 := 2) dX11_alike_1 rfl ?_
  refine r_cv1 (pc2 := 5) dX11_alike_2 rfl vX11_194 (hK_2 hS) (by decide) (c_X11_isFilled (d := d + 5) (lf := lf) hS har hl) ?_
  by_cases oa : ldP lf a
  · rintro _ M9 ⟨rfl, h9⟩
    rw [h9, show (if ldP lf a then (1 : Int) else 0) = 1 from if_pos oa]
    show Go (Ct (d + 6)) _ yX11_alike cX11_alike (some .int) 0 0 5 [some (.ref 2), some (.int (iI a)), some (.int (iI b))] [.int (iI 1)] M
    refine r_ifeq (tgt := 16) (pc2 := 8) dX11_alike_5 rfl (by decide) ⟨by omega, by omega⟩ (fun h9 => absurd h9 (by decide)) (fun _ => ?_)
    refine r_aload0 (pc2 := 9) dX11_alike_8 rfl ?_
    refine r_iload2 (pc2 := 10) dX11_alike_9 rfl ?_
    refine r_cv1 (pc2 := 13) dX11_alike_10 rfl vX11_194 (hK_2 hS) (by decide) (c_X11_isFilled (d := d + 5) (lf := lf) hS hbr hl) ?_
    by_cases ob : ldP lf b
    · rintro _ M9 ⟨rfl, h9⟩
      rw [h9, show (if ldP lf b then (1 : Int) else 0) = 1 from if_pos ob]
      show Go (Ct (d + 6)) _ yX11_alike cX11_alike (some .int) 0 0 13 [some (.ref 2), some (.int (iI a)), some (.int (iI b))] [.int (iI 1)] M
      refine r_ifne (tgt := 18) (pc2 := 16) dX11_alike_13 rfl (by decide) ⟨by omega, by omega⟩ (fun _ => ?_) (fun h9 => absurd h9 (by decide))
      refine r_iload1 (pc2 := 19) dX11_alike_18 rfl ?_
      refine r_iload2 (pc2 := 20) dX11_alike_19 rfl ?_
      refine r_icne (tgt := 25) (pc2 := 23) dX11_alike_20 rfl (by decide) ⟨by omega, by omega⟩ ⟨by omega, by omega⟩ (fun b_20 => ?_) (fun b_20 => ?_)
      · refine r_aload0 (pc2 := 26) dX11_alike_25 rfl ?_
        refine r_iload1 (pc2 := 27) dX11_alike_26 rfl ?_
        refine r_iload2 (pc2 := 28) dX11_alike_27 rfl ?_
        have oa1 := oa.1
        have ob1 := ob.1
        obtain ⟨sa, ea⟩ : ∃ sa : Nat, a = (sa : Int) := ⟨a.toNat, by omega⟩
        obtain ⟨sb, eb⟩ : ∃ sb : Nat, b = (sb : Int) := ⟨b.toNat, by omega⟩
        have la := oa.2
        have lb := ob.2
        have eta : a.toNat = sa := by omega
        have etb : b.toNat = sb := by omega
        rw [eta] at la
        rw [etb] at lb
        have hab : sa ≠ sb := by omega
        rw [show iI a = iI ((sa : Nat) : Int) by rw [ea], show iI b = iI ((sb : Nat) : Int) by rw [eb]]
        refine r_cv2 (pc2 := 31) dX11_alike_28 rfl vX11_197 (hK_2 hS) (by decide) (c_X11_compareShelves (d := d) hS hl hcf hok hSr hT (by omega) (by omega) hab la lb) ?_
        rintro _ M1 ⟨rfl, q1, q2, q3⟩
        have hS1 := q2.1.ok hS
        obtain ⟨R, eR⟩ : ∃ R, R = tlR (B (1 + a.toNat)) (B (1 + b.toNat)) a.toNat b.toNat := ⟨_, rfl⟩
        have eR2 : R = tlF (B (1 + sa)).1 (B (1 + sb)).1 (B (1 + sa)).2 (B (1 + sb)).2 := by rw [eR, eta, etb]; exact if_neg hab
        have q4 := q1.2.2.2
        rw [← eR2] at q4
        have rR : -1 ≤ R.1 ∧ R.1 ≤ 3000 := by rw [eR]; exact tlR_r
        skip
        refine r_aload0 (pc2 := 32) dX11_alike_31 rfl ?_
        refine r_getR (pc2 := 35) dX11_alike_32 rfl fX11_80 (hK_2 hS1) (hR_2_10 hS1) ?_
        refine r_getI (z := R.1) (pc2 := 38) dX11_alike_35 rfl (Or.inl fX11_201) (hK_264 hS1) q4.1 ?_
        refine r_ireti dX11_alike_38 rfl ?_
        refine Or.inr ⟨⟨oa, ob⟩, ?_, Or.inr ⟨by rw [eta, etb]; exact q1, by rw [eta, etb]; exact q2, q3⟩⟩
        rw [← eR]
      · refine r_iconst (pc2 := 24) dX11_alike_23 rfl ?_
        refine r_ireti dX11_alike_24 rfl ?_
        refine Or.inr ⟨⟨oa, ob⟩, ?_, Or.inl rfl⟩
        have e9 : (tlR (B (1 + a.toNat)) (B (1 + b.toNat)) a.toNat b.toNat) = (0, fun _ => 0) := if_pos (by omega)
        rw [e9]
    · rintro _ M9 ⟨rfl, h9⟩
      rw [h9, show (if ldP lf b then (1 : Int) else 0) = 0 from if_neg ob]
      show Go (Ct (d + 6)) _ yX11_alike cX11_alike (some .int) 0 0 13 [some (.ref 2), some (.int (iI a)), some (.int (iI b))] [.int (iI 0)] M
      refine r_ifne (tgt := 18) (pc2 := 16) dX11_alike_13 rfl (by decide) ⟨by omega, by omega⟩ (fun h9 => absurd h9 (by decide)) (fun _ => ?_)
      refine r_iconst (pc2 := 17) dX11_alike_16 rfl ?_
      refine r_ireti dX11_alike_17 rfl ?_
      exact Or.inl ⟨fun q => ob q.2, rfl, rfl⟩
  · rintro _ M9 ⟨rfl, h9⟩
    rw [h9, show (if ldP lf a then (1 : Int) else 0) = 0 from if_neg oa]
    show Go (Ct (d + 6)) _ yX11_alike cX11_alike (some .int) 0 0 5 [some (.ref 2), some (.int (iI a)), some (.int (iI b))] [.int (iI 0)] M
    refine r_ifeq (tgt := 16) (pc2 := 8) dX11_alike_5 rfl (by decide) ⟨by omega, by omega⟩ (fun _ => ?_) (fun h9 => absurd h9 (by decide))
    refine r_iconst (pc2 := 17) dX11_alike_16 rfl ?_
    refine r_ireti dX11_alike_17 rfl ?_
    exact Or.inl ⟨fun q => oa q.1, rfl, rfl⟩
set_option maxHeartbeats 4000000 in
theorem c_X11_telling {d : Nat} {M : pM} {a b i : Int} {B : Nat → bS} {lf : Nat → Int} (hS : sOk M.1) (hl : ∀ s, s < 4 → M.2.1 253 s = lf s ∧ 0 ≤ lf s ∧ lf s ≤ 1) (hcf : ∀ s, s < 4 → lf s = 1 → ∃ ix, CF M (277 + 10 * s) (B (1 + s)) ix) (hok : ∀ s, s < 4 → lf s = 1 → bOk (B (1 + s)).1 ∧ bK (B (1 + s)).1 (B (1 + s)).2) (hSr : SNr M) (hT : CTl M B) (har : inR a) (hbr : inR b) (hir : inR i) : Ct (d + 7) 0 0 yX11_telling [.ref 2, .int (iI a), .int (iI b), .int (iI i)] M (fun v M2 => (¬ (ldP lf a ∧ ldP lf b) ∧ v = some (.int (iI (-1))) ∧ M2 = M) ∨ (ldP lf a ∧ ldP lf b) ∧ v = some (.int (iI (if 0 ≤ i ∧ i < (tlR (B (1 + a.toNat)) (B (1 + b.toNat)) a.toNat b.toNat).1 then (tlR (B (1 + a.toNat)) (B (1 + b.toNat)) a.toNat b.toNat).2 i.toNat else -1))) ∧ (M2 = M ∨ tlV M2 B a.toNat b.toNat ∧ frX a.toNat b.toNat M M2 ∧ SNr M2)) := by
  refine ct_in (d := (d + 6)) kX11_telling rfl (by decide) (Nat.le_of_ble_eq_true rfl) (by decide) ?_
  show Go (Ct (d + 6)) _ yX11_telling cX11_telling (some .int) 0 0 0 [some (.ref 2), some (.int (iI a)), some (.int (iI b)), some (.int (iI i))] [] M
  have har2 := har
  have hbr2 := hbr
  have hir2 := hir
  unfold inR at har2 hbr2 hir2
  refine r_aload0 (pc2 := 1) dX11_telling_0 rfl ?_
  refine r_iload1 (pc2 := 2) dX11_telling_1 rfl ?_
  refine r_cv1 (pc2 := 5) dX11_telling_2 rfl vX11_194 (hK_2 hS) (by decide) (c_X11_isFilled (d := d + 5) (lf := lf) hS har hl) ?_
  by_cases oa : ldP lf a
  · rintro _ M9 ⟨rfl, h9⟩
    rw [h9, show (if ldP lf a then (1 : Int) else 0) = 1 from if_pos oa]
    show Go (Ct (d + 6)) _ yX11_telling cX11_telling (some .int) 0 0 5 [some (.ref 2), some (.int (iI a)), some (.int (iI b)), some (.int (iI i))] [.int (iI 1)] M
    refine r_ifeq (tgt := 21) (pc2 := 8) dX11_telling_5 rfl (by decide) ⟨by omega, by omega⟩ (fun h9 => absurd h9 (by decide)) (fun _ => ?_)
    refine r_aload0 (pc2 := 9) dX11_telling_8 rfl ?_
    refine r_iload2 (pc2 := 10) dX11_telling_9 rfl ?_
    refine r_cv1 (pc2 := 13) dX11_telling_10 rfl vX11_194 (hK_2 hS) (by decide) (c_X11_isFilled (d := d + 5) (lf := lf) hS hbr hl) ?_
    by_cases ob : ldP lf b
    · rintro _ M9 ⟨rfl, h9⟩
      rw [h9, show (if ldP lf b then (1 : Int) else 0) = 1 from if_pos ob]
      show Go (Ct (d + 6)) _ yX11_telling cX11_telling (some .int) 0 0 13 [some (.ref 2), some (.int (iI a)), some (.int (iI b)), some (.int (iI i))] [.int (iI 1)] M
      refine r_ifeq (tgt := 21) (pc2 := 16) dX11_telling_13 rfl (by decide) ⟨by omega, by omega⟩ (fun h9 => absurd h9 (by decide)) (fun _ => ?_)
      refine r_iload1 (pc2 := 17) dX11_telling_16 rfl ?_
      refine r_iload2 (pc2 := 18) dX11_telling_17 rfl ?_
      refine r_icne (tgt := 23) (pc2 := 21) dX11_telling_18 rfl (by decide) ⟨by omega, by omega⟩ ⟨by omega, by omega⟩ (fun b_18 => ?_) (fun b_18 => ?_)
      · refine r_aload0 (pc2 := 24) dX11_telling_23 rfl ?_
        refine r_iload1 (pc2 := 25) dX11_telling_24 rfl ?_
        refine r_iload2 (pc2 := 26) dX11_telling_25 rfl ?_
        have oa1 := oa.1
        have ob1 := ob.1
        obtain ⟨sa, ea⟩ : ∃ sa : Nat, a = (sa : Int) := ⟨a.toNat, by omega⟩
        obtain ⟨sb, eb⟩ : ∃ sb : Nat, b = (sb : Int) := ⟨b.toNat, by omega⟩
        have la := oa.2
        have lb := ob.2
        have eta : a.toNat = sa := by omega
        have etb : b.toNat = sb := by omega
        rw [eta] at la
        rw [etb] at lb
        have hab : sa ≠ sb := by omega
        rw [show iI a = iI ((sa : Nat) : Int) by rw [ea], show iI b = iI ((sb : Nat) : Int) by rw [eb]]
        refine r_cv2 (pc2 := 29) dX11_telling_26 rfl vX11_197 (hK_2 hS) (by decide) (c_X11_compareShelves (d := d) hS hl hcf hok hSr hT (by omega) (by omega) hab la lb) ?_
        rintro _ M1 ⟨rfl, q1, q2, q3⟩
        have hS1 := q2.1.ok hS
        obtain ⟨R, eR⟩ : ∃ R, R = tlR (B (1 + a.toNat)) (B (1 + b.toNat)) a.toNat b.toNat := ⟨_, rfl⟩
        have eR2 : R = tlF (B (1 + sa)).1 (B (1 + sb)).1 (B (1 + sa)).2 (B (1 + sb)).2 := by rw [eR, eta, etb]; exact if_neg hab
        have q4 := q1.2.2.2
        rw [← eR2] at q4
        have rR : -1 ≤ R.1 ∧ R.1 ≤ 3000 := by rw [eR]; exact tlR_r
        skip
        refine r_iload3 (pc2 := 30) dX11_telling_29 rfl ?_
        refine r_iflt (tgt := 44) (pc2 := 33) dX11_telling_30 rfl (by decide) ⟨by omega, by omega⟩ (fun b_30 => ?_) (fun b_30 => ?_)
        · refine r_iconst (pc2 := 45) dX11_telling_44 rfl ?_
          refine r_goto (tgt := 57) dX11_telling_45 (by decide) ?_
          refine r_ireti dX11_telling_57 rfl ?_
          refine Or.inr ⟨⟨oa, ob⟩, ?_, Or.inr ⟨by rw [eta, etb]; exact q1, by rw [eta, etb]; exact q2, q3⟩⟩
          rw [← eR]
          rw [if_neg (by omega)]
        · refine r_iload3 (pc2 := 34) dX11_telling_33 rfl ?_
          refine r_aload0 (pc2 := 35) dX11_telling_34 rfl ?_
          refine r_getR (pc2 := 38) dX11_telling_35 rfl fX11_80 (hK_2 hS1) (hR_2_10 hS1) ?_
          refine r_getI (z := R.1) (pc2 := 41) dX11_telling_38 rfl (Or.inl fX11_201) (hK_264 hS1) q4.1 ?_
          refine r_iclt (tgt := 48) (pc2 := 44) dX11_telling_41 rfl (by decide) ⟨by omega, by omega⟩ ⟨by omega, by omega⟩ (fun b_41 => ?_) (fun b_41 => ?_)
          · refine r_aload0 (pc2 := 49) dX11_telling_48 rfl ?_
            refine r_getR (pc2 := 52) dX11_telling_49 rfl fX11_80 (hK_2 hS1) (hR_2_10 hS1) ?_
            refine r_getR (pc2 := 55) dX11_telling_52 rfl fX11_202 (hK_264 hS1) (hR_264_0 hS1) ?_
            refine r_iload3 (pc2 := 56) dX11_telling_55 rfl ?_
            refine r_iald (z := (R.2 i.toNat)) (pc2 := 57) dX11_telling_56 rfl (hK_265 hS1) (i).toNat (by omega) (by omega) (q4.2 i.toNat (by omega)) ?_
            refine r_ireti dX11_telling_57 rfl ?_
            refine Or.inr ⟨⟨oa, ob⟩, ?_, Or.inr ⟨by rw [eta, etb]; exact q1, by rw [eta, etb]; exact q2, q3⟩⟩
            rw [← eR]
            rw [if_pos (by omega)]
          · refine r_iconst (pc2 := 45) dX11_telling_44 rfl ?_
            refine r_goto (tgt := 57) dX11_telling_45 (by decide) ?_
            refine r_ireti dX11_telling_57 rfl ?_
            refine Or.inr ⟨⟨oa, ob⟩, ?_, Or.inr ⟨by rw [eta, etb]; exact q1, by rw [eta, etb]; exact q2, q3⟩⟩
            rw [← eR]
            rw [if_neg (by omega)]
      · refine r_iconst (pc2 := 22) dX11_telling_21 rfl ?_
        refine r_ireti dX11_telling_22 rfl ?_
        refine Or.inr ⟨⟨oa, ob⟩, ?_, Or.inl rfl⟩
        have e9 : (tlR (B (1 + a.toNat)) (B (1 + b.toNat)) a.toNat b.toNat) = (0, fun _ => 0) := if_pos (by omega)
        rw [e9]
        rw [if_neg (by show ¬ (0 ≤ i ∧ i < 0); omega)]
    · rintro _ M9 ⟨rfl, h9⟩
      rw [h9, show (if ldP lf b then (1 : Int) else 0) = 0 from if_neg ob]
      show Go (Ct (d + 6)) _ yX11_telling cX11_telling (some .int) 0 0 13 [some (.ref 2), some (.int (iI a)), some (.int (iI b)), some (.int (iI i))] [.int (iI 0)] M
      refine r_ifeq (tgt := 21) (pc2 := 16) dX11_telling_13 rfl (by decide) ⟨by omega, by omega⟩ (fun _ => ?_) (fun h9 => absurd h9 (by decide))
      refine r_iconst (pc2 := 22) dX11_telling_21 rfl ?_
      refine r_ireti dX11_telling_22 rfl ?_
      exact Or.inl ⟨fun q => ob q.2, rfl, rfl⟩
  · rintro _ M9 ⟨rfl, h9⟩
    rw [h9, show (if ldP lf a then (1 : Int) else 0) = 0 from if_neg oa]
    show Go (Ct (d + 6)) _ yX11_telling cX11_telling (some .int) 0 0 5 [some (.ref 2), some (.int (iI a)), some (.int (iI b)), some (.int (iI i))] [.int (iI 0)] M
    refine r_ifeq (tgt := 21) (pc2 := 8) dX11_telling_5 rfl (by decide) ⟨by omega, by omega⟩ (fun _ => ?_) (fun h9 => absurd h9 (by decide))
    refine r_iconst (pc2 := 22) dX11_telling_21 rfl ?_
    refine r_ireti dX11_telling_22 rfl ?_
    exact Or.inl ⟨fun q => oa q.1, rfl, rfl⟩
