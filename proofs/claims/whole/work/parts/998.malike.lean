/-! alike and telling: the model -/
abbrev ldP (lf : Nat → Int) (z : Int) : Prop := (0 ≤ z ∧ z < 4) ∧ lf z.toNat = 1
set_option maxHeartbeats 4000000 in
theorem c_X12_areLaid {d : Nat} {M : pM} {a b : Int} {lf : Nat → Int} (hS : sOk M.1) (har : inR a) (hbr : inR b) (hl : ∀ s, s < 4 → M.2.1 343 s = lf s ∧ 0 ≤ lf s ∧ lf s ≤ 1) : Ct (d + 2) 0 0 yX12_areLaid [.ref 317, .int (iI a), .int (iI b)] M (fun v M2 => v = some (.int (iI (if ldP lf a ∧ ldP lf b then 1 else 0))) ∧ M2 = M) := by
  refine ct_in (d := (d + 1)) kX12_areLaid rfl (by decide) (Nat.le_of_ble_eq_true rfl) (by decide) ?_
  show Go (Ct (d + 1)) _ yX12_areLaid cX12_areLaid (some .boolean) 0 0 0 [some (.ref 317), some (.int (iI a)), some (.int (iI b))] [] M
  unfold inR at har hbr
  refine r_iload1 (pc2 := 1) dX12_areLaid_0 rfl ?_
  refine r_cs1 (pc2 := 4) dX12_areLaid_1 rfl sX12_357 (by decide) (c_X12_isShelf (d := d) (h := a) ⟨by omega, by omega⟩) ?_
  by_cases ha : 0 ≤ a ∧ a < 4
  · rintro _ M9 ⟨rfl, h9⟩
    rw [h9, show (if 0 ≤ a ∧ a < 4 then (1 : Int) else 0) = 1 from if_pos ha]
    have la := hl a.toNat (by omega)
    show Go (Ct (d + 1)) _ yX12_areLaid cX12_areLaid (some .boolean) 0 0 4 [some (.ref 317), some (.int (iI a)), some (.int (iI b))] [.int (iI 1)] M
    refine r_ifeq (tgt := 36) (pc2 := 7) dX12_areLaid_4 rfl (by decide) ⟨by omega, by omega⟩ (fun h9 => absurd h9 (by decide)) (fun _ => ?_)
    refine r_iload2 (pc2 := 8) dX12_areLaid_7 rfl ?_
    refine r_cs1 (pc2 := 11) dX12_areLaid_8 rfl sX12_357 (by decide) (c_X12_isShelf (d := d) (h := b) ⟨by omega, by omega⟩) ?_
    by_cases hb : 0 ≤ b ∧ b < 4
    · rintro _ M9 ⟨rfl, h9⟩
      rw [h9, show (if 0 ≤ b ∧ b < 4 then (1 : Int) else 0) = 1 from if_pos hb]
      have lb := hl b.toNat (by omega)
      show Go (Ct (d + 1)) _ yX12_areLaid cX12_areLaid (some .boolean) 0 0 11 [some (.ref 317), some (.int (iI a)), some (.int (iI b))] [.int (iI 1)] M
      refine r_ifeq (tgt := 36) (pc2 := 14) dX12_areLaid_11 rfl (by decide) ⟨by omega, by omega⟩ (fun h9 => absurd h9 (by decide)) (fun _ => ?_)
      refine r_aload0 (pc2 := 15) dX12_areLaid_14 rfl ?_
      refine r_getR (pc2 := 18) dX12_areLaid_15 rfl fX12_131 (hK_317 hS) (hR_317_42 hS) ?_
      refine r_iload1 (pc2 := 19) dX12_areLaid_18 rfl ?_
      refine r_zald (z := (lf a.toNat)) (pc2 := 20) dX12_areLaid_19 rfl (hK_343 hS) (a).toNat (by omega) (by omega) la.1 ?_
      refine r_ifeq (tgt := 36) (pc2 := 23) dX12_areLaid_20 rfl (by decide) ⟨by omega, by omega⟩ (fun b_20 => ?_) (fun b_20 => ?_)
      · refine r_iconst (pc2 := 37) dX12_areLaid_36 rfl ?_
        refine r_iretz dX12_areLaid_37 rfl (by omega) ?_
        exact ⟨by rw [if_neg (fun q => by have := q.1.2; omega)], rfl⟩
      · refine r_aload0 (pc2 := 24) dX12_areLaid_23 rfl ?_
        refine r_getR (pc2 := 27) dX12_areLaid_24 rfl fX12_131 (hK_317 hS) (hR_317_42 hS) ?_
        refine r_iload2 (pc2 := 28) dX12_areLaid_27 rfl ?_
        refine r_zald (z := (lf b.toNat)) (pc2 := 29) dX12_areLaid_28 rfl (hK_343 hS) (b).toNat (by omega) (by omega) lb.1 ?_
        refine r_ifeq (tgt := 36) (pc2 := 32) dX12_areLaid_29 rfl (by decide) ⟨by omega, by omega⟩ (fun b_29 => ?_) (fun b_29 => ?_)
        · refine r_iconst (pc2 := 37) dX12_areLaid_36 rfl ?_
          refine r_iretz dX12_areLaid_37 rfl (by omega) ?_
          exact ⟨by rw [if_neg (fun q => by have := q.2.2; omega)], rfl⟩
        · refine r_iconst (pc2 := 33) dX12_areLaid_32 rfl ?_
          refine r_goto (tgt := 37) dX12_areLaid_33 (by decide) ?_
          refine r_iretz dX12_areLaid_37 rfl (by omega) ?_
          exact ⟨by rw [if_pos ⟨⟨ha, by omega⟩, ⟨hb, by omega⟩⟩], rfl⟩
    · rintro _ M9 ⟨rfl, h9⟩
      rw [h9, show (if 0 ≤ b ∧ b < 4 then (1 : Int) else 0) = 0 from if_neg hb]
      show Go (Ct (d + 1)) _ yX12_areLaid cX12_areLaid (some .boolean) 0 0 11 [some (.ref 317), some (.int (iI a)), some (.int (iI b))] [.int (iI 0)] M
      refine r_ifeq (tgt := 36) (pc2 := 14) dX12_areLaid_11 rfl (by decide) ⟨by omega, by omega⟩ (fun _ => ?_) (fun h9 => absurd h9 (by decide))
      refine r_iconst (pc2 := 37) dX12_areLaid_36 rfl ?_
      refine r_iretz dX12_areLaid_37 rfl (by omega) ?_
      exact ⟨by rw [if_neg (fun q => hb q.2.1)], rfl⟩
  · rintro _ M9 ⟨rfl, h9⟩
    rw [h9, show (if 0 ≤ a ∧ a < 4 then (1 : Int) else 0) = 0 from if_neg ha]
    show Go (Ct (d + 1)) _ yX12_areLaid cX12_areLaid (some .boolean) 0 0 4 [some (.ref 317), some (.int (iI a)), some (.int (iI b))] [.int (iI 0)] M
    refine r_ifeq (tgt := 36) (pc2 := 7) dX12_areLaid_4 rfl (by decide) ⟨by omega, by omega⟩ (fun _ => ?_) (fun h9 => absurd h9 (by decide))
    refine r_iconst (pc2 := 37) dX12_areLaid_36 rfl ?_
    refine r_iretz dX12_areLaid_37 rfl (by omega) ?_
    exact ⟨by rw [if_neg (fun q => ha q.1.1)], rfl⟩
noncomputable def tlR (X Y : bS) (sa sb : Nat) : Int × (Nat → Int) := if sa = sb then (0, fun _ => 0) else tlF X.1 Y.1 X.2 Y.2
set_option maxHeartbeats 4000000 in
theorem c_X12_alike {d : Nat} {M : pM} {a b : Int} {lf : Nat → Int} {B : Nat → bS} (hS : sOk M.1) (har : inR a) (hbr : inR b) (hl : ∀ s, s < 4 → M.2.1 343 s = lf s ∧ 0 ≤ lf s ∧ lf s ≤ 1) (hB : MB M B) (hob : ∀ s, s < 4 → lf s = 1 → bOk (B (1 + s)).1 ∧ bK (B (1 + s)).1 (B (1 + s)).2) : Ct (d + 5) 0 0 yX12_alike [.ref 317, .int (iI a), .int (iI b)] M (fun v M2 => (¬ (ldP lf a ∧ ldP lf b) ∧ v = some (.int (iI (-1))) ∧ M2 = pI M 317 0 0) ∨ (ldP lf a ∧ ldP lf b) ∧ v = some (.int (iI (tlR (B (1 + a.toNat)) (B (1 + b.toNat)) a.toNat b.toNat).1)) ∧ frT (pI M 317 0 0) M2) := by
  refine ct_in (d := (d + 4)) kX12_alike rfl (by decide) (Nat.le_of_ble_eq_true rfl) (by decide) ?_
  show Go (Ct (d + 4)) _ yX12_alike cX12_alike (some .int) 0 0 0 [some (.ref 317), some (.int (iI a)), some (.int (iI b))] [] M
  refine r_aload0 (pc2 := 1) dX12_alike_0 rfl ?_
  refine r_iconst (pc2 := 2) dX12_alike_1 rfl ?_
  refine r_putI (z := 0) (pc2 := 5) dX12_alike_2 rfl fX12_1 (w12_0 _) (hK_317 hS) (by decide) ?_
  refine r_aload0 (pc2 := 6) dX12_alike_5 rfl ?_
  refine r_iload1 (pc2 := 7) dX12_alike_6 rfl ?_
  refine r_iload2 (pc2 := 8) dX12_alike_7 rfl ?_
  refine r_cv2 (pc2 := 11) dX12_alike_8 rfl vX12_370 (hK_317 hS) (by decide) (c_X12_areLaid (d := d + 2) (lf := lf) hS har hbr (fun s hs => by rw [pI_ne (by decide)]; exact hl s hs)) ?_
  by_cases ho : ldP lf a ∧ ldP lf b
  · rintro _ M9 ⟨rfl, h9⟩
    rw [h9, show (if ldP lf a ∧ ldP lf b then (1 : Int) else 0) = 1 from if_pos ho]
    obtain ⟨sa, ea⟩ : ∃ sa : Nat, a = (sa : Int) := ⟨a.toNat, by have := ho.1.1; omega⟩
    obtain ⟨sb, eb⟩ : ∃ sb : Nat, b = (sb : Int) := ⟨b.toNat, by have := ho.2.1; omega⟩
    have ha4 : sa < 4 := by have := ho.1.1; omega
    have hb4 : sb < 4 := by have := ho.2.1; omega
    have oa := hob sa ha4 (by have := ho.1.2; rw [ea] at this; exact this)
    have ob := hob sb hb4 (by have := ho.2.2; rw [eb] at this; exact this)
    show Go (Ct (d + 4)) _ yX12_alike cX12_alike (some .int) 0 0 11 [some (.ref 317), some (.int (iI a)), some (.int (iI b))] [.int (iI 1)] (pI M 317 0 0)
    refine r_ifne (tgt := 16) (pc2 := 14) dX12_alike_11 rfl (by decide) ⟨by omega, by omega⟩ (fun _ => ?_) (fun h9 => absurd h9 (by decide))
    refine r_aload0 (pc2 := 17) dX12_alike_16 rfl ?_
    refine r_iconst (pc2 := 18) dX12_alike_17 rfl ?_
    refine r_iload1 (pc2 := 19) dX12_alike_18 rfl ?_
    refine r_iadd (c := ((1 + sa : Nat) : Int)) (pc2 := 20) dX12_alike_19 rfl (by omega) ?_
    refine r_iconst (pc2 := 21) dX12_alike_20 rfl ?_
    refine r_iload2 (pc2 := 22) dX12_alike_21 rfl ?_
    refine r_iadd (c := ((1 + sb : Nat) : Int)) (pc2 := 23) dX12_alike_22 rfl (by omega) ?_
    refine r_cv2 (pc2 := 26) dX12_alike_23 rfl vX12_373 (hK_317 hS) (by decide) (c_X12_tellsApart (d := d) (a := 1 + sa) (b := 1 + sb) hS (by omega) (by omega) (hB.z (k := 0) (z := 0) (1 + sa) (by omega)) (hB.z (k := 0) (z := 0) (1 + sb) (by omega)) oa.1 ob.1 oa.2 ob.2) ?_
    rintro _ M1 ⟨rfl, f1, e1⟩
    have hS1 := f1.1.ok hS
    obtain ⟨R, eR⟩ : ∃ R, R = tlR (B (1 + sa)) (B (1 + sb)) sa sb := ⟨_, rfl⟩
    have e44 : M1.2.1 317 44 = R.1 ∧ ∀ j : Nat, (j : Int) < R.1 → M1.2.1 344 j = R.2 j := by
      rw [eR]; unfold tlR
      rcases e1 with ⟨q, e⟩ | ⟨q, e⟩
      · rw [if_pos (by omega)]; exact ⟨e, fun j hj => absurd hj (by show ¬ (j : Int) < 0; omega)⟩
      · rw [if_neg (by omega)]; exact e
    show Go (Ct (d + 4)) _ yX12_alike cX12_alike (some .int) 0 0 26 [some (.ref 317), some (.int (iI a)), some (.int (iI b))] [] M1
    refine r_aload0 (pc2 := 27) dX12_alike_26 rfl ?_
    refine r_getI (z := R.1) (pc2 := 30) dX12_alike_27 rfl (Or.inl fX12_360) (hK_317 hS1) e44.1 ?_
    refine r_ireti dX12_alike_30 rfl ?_
    refine Or.inr ⟨ho, ?_, f1⟩
    rw [eR, ea, eb]; rfl
  · rintro _ M9 ⟨rfl, h9⟩
    rw [h9, show (if ldP lf a ∧ ldP lf b then (1 : Int) else 0) = 0 from if_neg ho]
    show Go (Ct (d + 4)) _ yX12_alike cX12_alike (some .int) 0 0 11 [some (.ref 317), some (.int (iI a)), some (.int (iI b))] [.int (iI 0)] (pI M 317 0 0)
    refine r_ifne (tgt := 16) (pc2 := 14) dX12_alike_11 rfl (by decide) ⟨by omega, by omega⟩ (fun h9 => absurd h9 (by decide)) (fun _ => ?_)
    refine r_iconst (pc2 := 15) dX12_alike_14 rfl ?_
    refine r_ireti dX12_alike_15 rfl ?_
    exact Or.inl ⟨ho, rfl, rfl⟩
