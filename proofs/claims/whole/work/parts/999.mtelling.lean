/-! telling: the model -/
theorem bfs_r {κ : Type} {A : κ → Nat → Prop} {nx : κ → Nat → κ} {B : κ → Prop} {e : Int} (he : -1 ≤ e ∧ e ≤ 3000) : ∀ (m i h n : Nat) (K : Nat → κ) (P H : Nat → Int), i < n → n ≤ 3000 → -1 ≤ (bfs A nx B e m i h n K P H).1 ∧ (bfs A nx B e m i h n K P H).1 ≤ 3000 := by
  intro m
  induction m with
  | zero => intro i h n K P H _ _; exact he
  | succ m ih =>
    intro i h n K P H hi hn
    have hl := trc_le (P := P) (H := H) i (i : Int)
    have hg : ∀ g : Nat → Int, -1 ≤ ((((trc P H i (i : Int)).length + 1 : Nat) : Int), g).1 ∧ ((((trc P H i (i : Int)).length + 1 : Nat) : Int), g).1 ≤ 3000 := fun g => ⟨by show -1 ≤ (((trc P H i (i : Int)).length + 1 : Nat) : Int); omega, by show (((trc P H i (i : Int)).length + 1 : Nat) : Int) ≤ 3000; omega⟩
    rw [bfs]
    split
    · split
      · exact ih _ _ _ _ _ _ (by omega) hn
      · exact he
    split
    · exact hg _
    split
    · exact ih _ _ _ _ _ _ hi hn
    split
    · exact ⟨by show (-1 : Int) ≤ -1; decide, by show (-1 : Int) ≤ 3000; decide⟩
    split
    · exact hg _
    · exact ih _ _ _ _ _ _ (by omega) (by omega)
theorem tlR_r {X Y : bS} {a b : Nat} : -1 ≤ (tlR X Y a b).1 ∧ (tlR X Y a b).1 ≤ 3000 := by
  unfold tlR
  split
  · exact ⟨by show (-1 : Int) ≤ 0; decide, by show (0 : Int) ≤ 3000; decide⟩
  · exact bfs_r ⟨by decide, by decide⟩ _ _ _ _ _ _ _ (by decide) (by decide)
set_option maxHeartbeats 4000000 in
theorem c_X12_telling {d : Nat} {M : pM} {a b i : Int} {lf : Nat → Int} {B : Nat → bS} (hS : sOk M.1) (har : inR a) (hbr : inR b) (hl : ∀ s, s < 4 → M.2.1 343 s = lf s ∧ 0 ≤ lf s ∧ lf s ≤ 1) (hB : MB M B) (hob : ∀ s, s < 4 → lf s = 1 → bOk (B (1 + s)).1 ∧ bK (B (1 + s)).1 (B (1 + s)).2) (hir : inR i) : Ct (d + 5) 0 0 yX12_telling [.ref 317, .int (iI a), .int (iI b), .int (iI i)] M (fun v M2 => (¬ (ldP lf a ∧ ldP lf b) ∧ v = some (.int (iI (-1))) ∧ M2 = pI M 317 0 0) ∨ (ldP lf a ∧ ldP lf b) ∧ v = some (.int (iI (if 0 ≤ i ∧ i < (tlR (B (1 + a.toNat)) (B (1 + b.toNat)) a.toNat b.toNat).1 then (tlR (B (1 + a.toNat)) (B (1 + b.toNat)) a.toNat b.toNat).2 i.toNat else -1))) ∧ frT (pI M 317 0 0) M2) := by
  refine ct_in (d := (d + 4)) kX12_telling rfl (by decide) (Nat.le_of_ble_eq_true rfl) (by decide) ?_
  show Go (Ct (d + 4)) _ yX12_telling cX12_telling (some .int) 0 0 0 [some (.ref 317), some (.int (iI a)), some (.int (iI b)), some (.int (iI i))] [] M
  have hir2 := hir
  unfold inR at hir2
  refine r_aload0 (pc2 := 1) dX12_telling_0 rfl ?_
  refine r_iconst (pc2 := 2) dX12_telling_1 rfl ?_
  refine r_putI (z := 0) (pc2 := 5) dX12_telling_2 rfl fX12_1 (w12_0 _) (hK_317 hS) (by decide) ?_
  refine r_aload0 (pc2 := 6) dX12_telling_5 rfl ?_
  refine r_iload1 (pc2 := 7) dX12_telling_6 rfl ?_
  refine r_iload2 (pc2 := 8) dX12_telling_7 rfl ?_
  refine r_cv2 (pc2 := 11) dX12_telling_8 rfl vX12_370 (hK_317 hS) (by decide) (c_X12_areLaid (d := d + 2) (lf := lf) hS har hbr (fun s hs => by rw [pI_ne (by decide)]; exact hl s hs)) ?_
  by_cases ho : ldP lf a ∧ ldP lf b
  · rintro _ M9 ⟨rfl, h9⟩
    rw [h9, show (if ldP lf a ∧ ldP lf b then (1 : Int) else 0) = 1 from if_pos ho]
    obtain ⟨sa, ea⟩ : ∃ sa : Nat, a = (sa : Int) := ⟨a.toNat, by have := ho.1.1; omega⟩
    obtain ⟨sb, eb⟩ : ∃ sb : Nat, b = (sb : Int) := ⟨b.toNat, by have := ho.2.1; omega⟩
    have ha4 : sa < 4 := by have := ho.1.1; omega
    have hb4 : sb < 4 := by have := ho.2.1; omega
    have oa := hob sa ha4 (by have := ho.1.2; rw [ea] at this; exact this)
    have ob := hob sb hb4 (by have := ho.2.2; rw [eb] at this; exact this)
    show Go (Ct (d + 4)) _ yX12_telling cX12_telling (some .int) 0 0 11 [some (.ref 317), some (.int (iI a)), some (.int (iI b)), some (.int (iI i))] [.int (iI 1)] (pI M 317 0 0)
    refine r_ifne (tgt := 16) (pc2 := 14) dX12_telling_11 rfl (by decide) ⟨by omega, by omega⟩ (fun _ => ?_) (fun h9 => absurd h9 (by decide))
    refine r_aload0 (pc2 := 17) dX12_telling_16 rfl ?_
    refine r_iconst (pc2 := 18) dX12_telling_17 rfl ?_
    refine r_iload1 (pc2 := 19) dX12_telling_18 rfl ?_
    refine r_iadd (c := ((1 + sa : Nat) : Int)) (pc2 := 20) dX12_telling_19 rfl (by omega) ?_
    refine r_iconst (pc2 := 21) dX12_telling_20 rfl ?_
    refine r_iload2 (pc2 := 22) dX12_telling_21 rfl ?_
    refine r_iadd (c := ((1 + sb : Nat) : Int)) (pc2 := 23) dX12_telling_22 rfl (by omega) ?_
    refine r_cv2 (pc2 := 26) dX12_telling_23 rfl vX12_373 (hK_317 hS) (by decide) (c_X12_tellsApart (d := d) (a := 1 + sa) (b := 1 + sb) hS (by omega) (by omega) (hB.z (k := 0) (z := 0) (1 + sa) (by omega)) (hB.z (k := 0) (z := 0) (1 + sb) (by omega)) oa.1 ob.1 oa.2 ob.2) ?_
    rintro _ M1 ⟨rfl, f1, e1⟩
    have hS1 := f1.1.ok hS
    obtain ⟨R, eR⟩ : ∃ R, R = tlR (B (1 + sa)) (B (1 + sb)) sa sb := ⟨_, rfl⟩
    have e44 : M1.2.1 317 44 = R.1 ∧ ∀ j : Nat, (j : Int) < R.1 → M1.2.1 344 j = R.2 j := by
      rw [eR]; unfold tlR
      rcases e1 with ⟨q, e⟩ | ⟨q, e⟩
      · rw [if_pos (by omega)]; exact ⟨e, fun j hj => absurd hj (by show ¬ (j : Int) < 0; omega)⟩
      · rw [if_neg (by omega)]; exact e
    have rR : -1 ≤ R.1 ∧ R.1 ≤ 3000 := by rw [eR]; exact tlR_r
    show Go (Ct (d + 4)) _ yX12_telling cX12_telling (some .int) 0 0 26 [some (.ref 317), some (.int (iI a)), some (.int (iI b)), some (.int (iI i))] [] M1
    refine r_iload3 (pc2 := 27) dX12_telling_26 rfl ?_
    refine r_iflt (tgt := 47) (pc2 := 30) dX12_telling_27 rfl (by decide) ⟨by omega, by omega⟩ (fun b_27 => ?_) (fun b_27 => ?_)
    · refine r_iconst (pc2 := 48) dX12_telling_47 rfl ?_
      refine r_ireti dX12_telling_48 rfl ?_
      refine Or.inr ⟨ho, ?_, f1⟩
      have eR2 : tlR (B (1 + a.toNat)) (B (1 + b.toNat)) a.toNat b.toNat = R := by rw [eR, ea, eb]; rfl
      rw [eR2, if_neg (by omega)]
    · refine r_iload3 (pc2 := 31) dX12_telling_30 rfl ?_
      refine r_aload0 (pc2 := 32) dX12_telling_31 rfl ?_
      refine r_getI (z := R.1) (pc2 := 35) dX12_telling_32 rfl (Or.inl fX12_360) (hK_317 hS1) e44.1 ?_
      refine r_icge (tgt := 47) (pc2 := 38) dX12_telling_35 rfl (by decide) ⟨by omega, by omega⟩ ⟨by omega, by omega⟩ (fun b_35 => ?_) (fun b_35 => ?_)
      · refine r_iconst (pc2 := 48) dX12_telling_47 rfl ?_
        refine r_ireti dX12_telling_48 rfl ?_
        refine Or.inr ⟨ho, ?_, f1⟩
        have eR2 : tlR (B (1 + a.toNat)) (B (1 + b.toNat)) a.toNat b.toNat = R := by rw [eR, ea, eb]; rfl
        rw [eR2, if_neg (by omega)]
      · refine r_aload0 (pc2 := 39) dX12_telling_38 rfl ?_
        refine r_getR (pc2 := 42) dX12_telling_39 rfl fX12_135 (hK_317 hS1) (hR_317_43 hS1) ?_
        refine r_iload3 (pc2 := 43) dX12_telling_42 rfl ?_
        refine r_iald (z := (R.2 i.toNat)) (pc2 := 44) dX12_telling_43 rfl (hK_344 hS1) (i).toNat (by omega) (by omega) (e44.2 i.toNat (by omega)) ?_
        refine r_goto (tgt := 48) dX12_telling_44 (by decide) ?_
        refine r_ireti dX12_telling_48 rfl ?_
        refine Or.inr ⟨ho, ?_, f1⟩
        have eR2 : tlR (B (1 + a.toNat)) (B (1 + b.toNat)) a.toNat b.toNat = R := by rw [eR, ea, eb]; rfl
        rw [eR2, if_pos (by omega)]
  · rintro _ M9 ⟨rfl, h9⟩
    rw [h9, show (if ldP lf a ∧ ldP lf b then (1 : Int) else 0) = 0 from if_neg ho]
    show Go (Ct (d + 4)) _ yX12_telling cX12_telling (some .int) 0 0 11 [some (.ref 317), some (.int (iI a)), some (.int (iI b)), some (.int (iI i))] [.int (iI 0)] (pI M 317 0 0)
    refine r_ifne (tgt := 16) (pc2 := 14) dX12_telling_11 rfl (by decide) ⟨by omega, by omega⟩ (fun h9 => absurd h9 (by decide)) (fun _ => ?_)
    refine r_iconst (pc2 := 15) dX12_telling_14 rfl ?_
    refine r_ireti dX12_telling_15 rfl ?_
    exact Or.inl ⟨ho, rfl, rfl⟩
