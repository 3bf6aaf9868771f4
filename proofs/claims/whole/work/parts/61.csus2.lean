/-! the class's mostAlike, bestHopper -/
def frE (b : Nat) (M M2 : pM) : Prop := fr [b, 276] M M2 ∧ M2.2.1 b = M.2.1 b ∧ ∀ k, k ≠ 12 → M2.2.2 b k = M.2.2 b k
theorem frE.rf {b : Nat} {M : pM} : frE b M M := ⟨fr.rf, rfl, fun _ _ => rfl⟩
theorem frE.tr {b : Nat} {M M1 M2 : pM} (h : frE b M M1) (h2 : frE b M1 M2) : frE b M M2 := ⟨h.1.tr h2.1, h2.2.1.trans h.2.1, fun k hk => (h2.2.2 k hk).trans (h.2.2 k hk)⟩
theorem frE.J {b : Nat} {M : pM} {v : Int64} : frE b M (pJ M b 12 v) := ⟨fr.rf.J (by simp), rfl, fun k hk => pJ_nk hk⟩
theorem frE.I {b k : Nat} {M : pM} {z : Int} (hb : isB b) : frE b M (pI M 276 k z) := ⟨fr.rf.I (by simp), pI_ne (by have := isB_d hb; omega), fun _ _ => rfl⟩
theorem CS.fe {b : Nat} {M M2 : pM} {D : bD} {ix : Nat → Nat} (h : CS M b D ix) (hb : isB b) (hf : frE b M M2) : CS M2 b D ix := h.of (fun k h1 h2 => hf.1.2 _ (fun q => by
  have := isB_270 (k := k) hb h2
  simp only [List.mem_cons, List.not_mem_nil, or_false] at q this
  omega))
theorem isB_nl {b a : Nat} (hb : isB b) (h1 : 270 ≤ a) (h2 : a ≤ 275) : a ∉ [b, 276] := by
  have := isB_d hb
  simp only [List.mem_cons, List.not_mem_nil, or_false]
  omega
theorem CL.fe {b : Nat} {D : bD} {ix : Nat → Nat} {M M2 : pM} {S : sS} (h : CL D ix M S) (hb : isB b) (hf : frE b M M2) : CL D ix M2 S := h.of (by rw [hf.1.i (isB_nl hb (by omega) (by omega))]) (hf.1.i (isB_nl hb (by omega) (by omega))) (hf.1.j (isB_nl hb (by omega) (by omega))) (hf.1.j (isB_nl hb (by omega) (by omega)))
theorem sEn_r {D : bD} {S : sS} {h i : Nat} (hD : bOk D) (hh : h < 4) (hS : ∀ i, i < S.1 → sOkE D (S.2 i)) (hi : i < S.1) : 0 ≤ sEn D S h i ∧ sEn D S h i < 1024 := by
  have := bH_K (st := (S.2 i).2.1) hD hh (hS i hi).1
  exact ⟨this.2.1, this.2.2.1⟩
set_option maxHeartbeats 4000000 in
theorem lp2_X7_mostAlike {d : Nat} {Q : pQ} {b h i mo : Nat} {e : Nat → Int} {M : pM} (hS : sOk M.1) (hi : i < 17) (he : ∀ k, k ≤ i → M.2.1 276 k = e k ∧ 0 ≤ e k ∧ e k < 1024)
    (hQ : Go (Ct (d + 3)) Q yX7_mostAlike cX7_mostAlike (some .int) 0 0 86 [some (.ref 270), some (.ref b), some (.int (iI ((h : Nat) : Int))), some (.int (iI ((mo : Nat) : Int))), some (.int (iI ((i : Nat) : Int))), some (.int (iI ((cnt e (e i) (i + 1) : Nat) : Int))), some (.int (iI ((i + 1 : Nat) : Int)))] [] M) :
    ∀ (m j : Nat), j + m = i + 1 → Go (Ct (d + 3)) Q yX7_mostAlike cX7_mostAlike (some .int) 0 0 46 [some (.ref 270), some (.ref b), some (.int (iI ((h : Nat) : Int))), some (.int (iI ((mo : Nat) : Int))), some (.int (iI ((i : Nat) : Int))), some (.int (iI ((cnt e (e i) j : Nat) : Int))), some (.int (iI ((j : Nat) : Int)))] [] M := by
  intro m
  induction m with
  | zero =>
    intro j hm
    obtain rfl : j = i + 1 := by omega
    refine r_iload6 (pc2 := 48) dX7_mostAlike_46 rfl ?_
    refine r_iload4 (pc2 := 50) dX7_mostAlike_48 rfl ?_
    refine r_icgt (tgt := 86) (pc2 := 53) dX7_mostAlike_50 rfl (by decide) ⟨by omega, by omega⟩ ⟨by omega, by omega⟩ (fun b_50 => ?_) (fun b_50 => ?_)
    · exact hQ
    · exact absurd b_50 (by omega)
  | succ m ih =>
    intro j hm
    have h1 := he j (by omega)
    have h2 := he i (by omega)
    refine r_iload6 (pc2 := 48) dX7_mostAlike_46 rfl ?_
    refine r_iload4 (pc2 := 50) dX7_mostAlike_48 rfl ?_
    refine r_icgt (tgt := 86) (pc2 := 53) dX7_mostAlike_50 rfl (by decide) ⟨by omega, by omega⟩ ⟨by omega, by omega⟩ (fun b_50 => ?_) (fun b_50 => ?_)
    · refine r_iload3 (pc2 := 87) dX7_mostAlike_86 rfl ?_
      refine r_iload5 (pc2 := 89) dX7_mostAlike_87 rfl ?_
      exact absurd b_50 (by omega)
    · refine r_iload5 (pc2 := 55) dX7_mostAlike_53 rfl ?_
      refine r_aload0 (pc2 := 56) dX7_mostAlike_55 rfl ?_
      refine r_getR (pc2 := 59) dX7_mostAlike_56 rfl fX7_28 (hK_270 hS) (hR_270_5 hS) ?_
      refine r_iload6 (pc2 := 61) dX7_mostAlike_59 rfl ?_
      refine r_iald (z := (e j)) (pc2 := 62) dX7_mostAlike_61 rfl (hK_276 hS) j rfl (by omega) h1.1 ?_
      refine r_aload0 (pc2 := 63) dX7_mostAlike_62 rfl ?_
      refine r_getR (pc2 := 66) dX7_mostAlike_63 rfl fX7_28 (hK_270 hS) (hR_270_5 hS) ?_
      refine r_iload4 (pc2 := 68) dX7_mostAlike_66 rfl ?_
      refine r_iald (z := (e i)) (pc2 := 69) dX7_mostAlike_68 rfl (hK_276 hS) i rfl (by omega) h2.1 ?_
      refine r_icne (tgt := 76) (pc2 := 72) dX7_mostAlike_69 rfl (by decide) ⟨by omega, by omega⟩ ⟨by omega, by omega⟩ (fun b_69 => ?_) (fun b_69 => ?_)
      · refine r_iconst (pc2 := 77) dX7_mostAlike_76 rfl ?_
        refine r_iadd (c := ((cnt e (e i) j + 0 : Nat) : Int)) (pc2 := 78) dX7_mostAlike_77 rfl (by omega) ?_
        refine r_istore5 (pc2 := 80) dX7_mostAlike_78 rfl rfl ?_
        refine r_iinc6 (z := ((j + 1 : Nat) : Int)) (pc2 := 83) dX7_mostAlike_80 rfl (by omega) rfl ?_
        refine r_goto (tgt := 46) dX7_mostAlike_83 (by decide) ?_
        have hc := cnt_s (e := e) (v := e i) (i := j)
        rw [if_neg b_69] at hc
        have h9 := ih (j + 1) (by omega)
        rw [hc] at h9
        exact h9
      · refine r_iconst (pc2 := 73) dX7_mostAlike_72 rfl ?_
        refine r_goto (tgt := 77) dX7_mostAlike_73 (by decide) ?_
        refine r_iadd (c := ((cnt e (e i) j + 1 : Nat) : Int)) (pc2 := 78) dX7_mostAlike_77 rfl (by omega) ?_
        refine r_istore5 (pc2 := 80) dX7_mostAlike_78 rfl rfl ?_
        refine r_iinc6 (z := ((j + 1 : Nat) : Int)) (pc2 := 83) dX7_mostAlike_80 rfl (by omega) rfl ?_
        refine r_goto (tgt := 46) dX7_mostAlike_83 (by decide) ?_
        have hc := cnt_s (e := e) (v := e i) (i := j)
        rw [if_pos (by omega)] at hc
        have h9 := ih (j + 1) (by omega)
        rw [hc] at h9
        exact h9
set_option maxHeartbeats 4000000 in
theorem lp_X7_mostAlike {d : Nat} {Q : pQ} {b h : Nat} {D : bD} {ix : Nat → Nat} {S : sS} (M0 : pM) (hS0 : sOk M0.1) (hb_b : isB b) (hC0 : CS M0 b D ix) (hD : bOk D) (hh : h < 4) (hL0 : CL D ix M0 S) (hSo : ∀ i, i < S.1 → sOkE D (S.2 i)) (h17 : S.1 ≤ 17)
    (hQ : ∀ M2, frE b M0 M2 → Q (some (.int (iI ((mxF (sEn D S h) S.1 : Nat) : Int)))) M2) :
    ∀ (m i : Nat) (M : pM) (l5 l6 : Option Value), i + m = S.1 → frE b M0 M → (∀ k, k < i → M.2.1 276 k = sEn D S h k) →
      Go (Ct (d + 3)) Q yX7_mostAlike cX7_mostAlike (some .int) 0 0 5 [some (.ref 270), some (.ref b), some (.int (iI ((h : Nat) : Int))), some (.int (iI ((mxF (sEn D S h) i : Nat) : Int))), some (.int (iI ((i : Nat) : Int))), l5, l6] [] M := by
  intro m
  induction m with
  | zero =>
    intro i M l5 l6 hm hfr he
    obtain rfl : i = S.1 := by omega
    have hS := hfr.1.ok hS0
    have hsu := (hL0.fe hb_b hfr).1
    refine r_iload4 (pc2 := 7) dX7_mostAlike_5 rfl ?_
    refine r_aload0 (pc2 := 8) dX7_mostAlike_7 rfl ?_
    refine r_getI (z := ((S.1 : Nat) : Int)) (pc2 := 11) dX7_mostAlike_8 rfl (Or.inl fX7_38) (hK_270 hS) hsu ?_
    refine r_icge (tgt := 99) (pc2 := 14) dX7_mostAlike_11 rfl (by decide) ⟨by omega, by omega⟩ ⟨by omega, by omega⟩ (fun b_11 => ?_) (fun b_11 => ?_)
    · refine r_iload3 (pc2 := 100) dX7_mostAlike_99 rfl ?_
      refine r_ireti dX7_mostAlike_100 rfl ?_
      exact hQ M hfr
    · exact absurd b_11 (by omega)
  | succ m ih =>
    intro i M l5 l6 hm hfr he
    have hS := hfr.1.ok hS0
    have hL := hL0.fe hb_b hfr
    have hsu := hL.1
    have hi : i < S.1 := by omega
    have hLi := hL.2 i hi
    refine r_iload4 (pc2 := 7) dX7_mostAlike_5 rfl ?_
    refine r_aload0 (pc2 := 8) dX7_mostAlike_7 rfl ?_
    refine r_getI (z := ((S.1 : Nat) : Int)) (pc2 := 11) dX7_mostAlike_8 rfl (Or.inl fX7_38) (hK_270 hS) hsu ?_
    refine r_icge (tgt := 99) (pc2 := 14) dX7_mostAlike_11 rfl (by decide) ⟨by omega, by omega⟩ ⟨by omega, by omega⟩ (fun b_11 => ?_) (fun b_11 => ?_)
    · refine r_iload3 (pc2 := 100) dX7_mostAlike_99 rfl ?_
      refine r_ireti dX7_mostAlike_100 rfl ?_
      exact absurd b_11 (by omega)
    · refine r_aload0 (pc2 := 15) dX7_mostAlike_14 rfl ?_
      refine r_getR (pc2 := 18) dX7_mostAlike_15 rfl fX7_28 (hK_270 hS) (hR_270_5 hS) ?_
      refine r_iload4 (pc2 := 20) dX7_mostAlike_18 rfl ?_
      refine r_aload1 (pc2 := 21) dX7_mostAlike_20 rfl ?_
      refine r_aload0 (pc2 := 22) dX7_mostAlike_21 rfl ?_
      refine r_getR (pc2 := 25) dX7_mostAlike_22 rfl fX7_25 (hK_270 hS) (hR_270_4 hS) ?_
      refine r_iload4 (pc2 := 27) dX7_mostAlike_25 rfl ?_
      refine r_lald (z := (M.2.2 275 i)) (pc2 := 28) dX7_mostAlike_27 rfl (hK_275 hS) i rfl (by omega) rfl ?_
      refine r_iload2 (pc2 := 29) dX7_mostAlike_28 rfl ?_
      refine r_aload0 (pc2 := 30) dX7_mostAlike_29 rfl ?_
      refine r_getR (pc2 := 33) dX7_mostAlike_30 rfl fX7_21 (hK_270 hS) (hR_270_3 hS) ?_
      refine r_iload4 (pc2 := 35) dX7_mostAlike_33 rfl ?_
      refine r_lald (z := (M.2.2 274 i)) (pc2 := 36) dX7_mostAlike_35 rfl (hK_274 hS) i rfl (by omega) rfl ?_
      refine r_cv3 (pc2 := 39) dX7_mostAlike_36 rfl vX7_58 (hKb hS hb_b) (Nat.le_of_ble_eq_true rfl) (CS_drop (d := d) (hC0.fe hb_b hfr) hS hb_b hD hh (hSo i hi).1 hLi.2.2 hLi.2.1) ?_
      rintro _ M8 ⟨rfl, a2, h8, hE8⟩
      have hf8 : frE b M0 M8 := hfr.tr (by rw [h8]; exact frE.J)
      have e8 : M8.2.1 = M.2.1 := by rw [h8]; rfl
      show Go (Ct (d + 3)) _ yX7_mostAlike cX7_mostAlike (some .int) 0 0 39 [some (.ref 270), some (.ref (b)), some (.int (iI ((h : Nat) : Int))), some (.int (iI ((mxF (sEn D S h) i : Nat) : Int))), some (.int (iI ((i : Nat) : Int))), l5, l6] [.int (iI (sEn D S h i)), .int (iI ((i : Nat) : Int)), .ref 276] M8
      refine r_iast (z := (sEn D S h i)) (pc2 := 40) dX7_mostAlike_39 rfl (hK_276 (hf8.1.ok hS0)) (by decide) i rfl (by omega) ?_
      refine r_iconst (pc2 := 41) dX7_mostAlike_40 rfl ?_
      refine r_istore5 (pc2 := 43) dX7_mostAlike_41 rfl rfl ?_
      refine r_iconst (pc2 := 44) dX7_mostAlike_43 rfl ?_
      refine r_istore6 (pc2 := 46) dX7_mostAlike_44 rfl rfl ?_
      obtain ⟨M9, h9⟩ : ∃ M9, M9 = (pI M8 276 i (sEn D S h i)) := ⟨_, rfl⟩
      rw [← h9]
      have hf9 : frE b M0 M9 := hf8.tr (by rw [h9]; exact frE.I hb_b)
      have he9 : ∀ k, k ≤ i → M9.2.1 276 k = sEn D S h k ∧ 0 ≤ sEn D S h k ∧ sEn D S h k < 1024 := fun k hk => by
        refine ⟨?_, sEn_r hD hh hSo (by omega)⟩
        rw [h9]
        by_cases u : k = i
        · subst u; exact pI_at
        · rw [pI_nk u, e8]; exact he k (by omega)
      have hc1 := cnt_le (e := sEn D S h) (v := sEn D S h i) (i + 1)
      have hc2 := mxF_le (e := sEn D S h) (n := i)
      refine lp2_X7_mostAlike (d := d) (e := sEn D S h) (hf9.1.ok hS0) (by omega) he9 ?_ (i + 1) 0 (by omega)
      refine r_iload3 (pc2 := 87) dX7_mostAlike_86 rfl ?_
      refine r_iload5 (pc2 := 89) dX7_mostAlike_87 rfl ?_
      refine r_cs2 (pc2 := 92) dX7_mostAlike_89 rfl sX7_69 (by decide) (c_J9_max_7cf53 (d := d + 2) (x := ((mxF (sEn D S h) i : Nat) : Int)) (z := ((cnt (sEn D S h) (sEn D S h i) (i + 1) : Nat) : Int)) ⟨by omega, by omega⟩ ⟨by omega, by omega⟩) ?_
      rintro _ M10 ⟨rfl, h10⟩
      rw [h10, show max ((mxF (sEn D S h) i : Nat) : Int) ((cnt (sEn D S h) (sEn D S h i) (i + 1) : Nat) : Int) = ((mxF (sEn D S h) (i + 1) : Nat) : Int) from by rw [mxF]; omega]
      show Go (Ct (d + 3)) _ yX7_mostAlike cX7_mostAlike (some .int) 0 0 92 [some (.ref 270), some (.ref (b)), some (.int (iI ((h : Nat) : Int))), some (.int (iI ((mxF (sEn D S h) i : Nat) : Int))), some (.int (iI ((i : Nat) : Int))), some (.int (iI ((cnt (sEn D S h) (sEn D S h i) (i + 1) : Nat) : Int))), some (.int (iI ((i + 1 : Nat) : Int)))] [.int (iI ((mxF (sEn D S h) (i + 1) : Nat) : Int))] M9
      refine r_istore3 (pc2 := 93) dX7_mostAlike_92 rfl rfl ?_
      refine r_iinc4 (z := ((i + 1 : Nat) : Int)) (pc2 := 96) dX7_mostAlike_93 rfl (by omega) rfl ?_
      refine r_goto (tgt := 5) dX7_mostAlike_96 (by decide) ?_
      exact ih (i + 1) M9 _ _ (by omega) hf9 (fun k hk => (he9 k (by omega)).1)
set_option maxHeartbeats 4000000 in
theorem c_X7_mostAlike {d : Nat} {M : pM} {b h : Nat} {D : bD} {ix : Nat → Nat} {S : sS} (hS : sOk M.1) (hb_b : isB b) (hC : CS M b D ix) (hD : bOk D) (hL : CL D ix M S) (hSo : ∀ i, i < S.1 → sOkE D (S.2 i)) (h17 : S.1 ≤ 17) (hh : h < 4) : Ct (d + 4) 0 0 yX7_mostAlike [.ref 270, .ref (b), .int (iI ((h : Nat) : Int))] M (fun v M2 => v = some (.int (iI ((mxF (sEn D S h) S.1 : Nat) : Int))) ∧ frE b M M2) := by
  refine ct_in (d := (d + 3)) kX7_mostAlike rfl (by decide) (Nat.le_of_ble_eq_true rfl) (by decide) ?_
  show Go (Ct (d + 3)) _ yX7_mostAlike cX7_mostAlike (some .int) 0 0 0 [some (.ref 270), some (.ref (b)), some (.int (iI ((h : Nat) : Int))), none, none, none, none] [] M
  refine r_iconst (pc2 := 1) dX7_mostAlike_0 rfl ?_
  refine r_istore3 (pc2 := 2) dX7_mostAlike_1 rfl rfl ?_
  refine r_iconst (pc2 := 3) dX7_mostAlike_2 rfl ?_
  refine r_istore4 (pc2 := 5) dX7_mostAlike_3 rfl rfl ?_
  exact lp_X7_mostAlike (d := d) M hS hb_b hC hD hh hL hSo h17 (fun M2 hf => ⟨rfl, hf⟩) S.1 0 M _ _ (by omega) frE.rf (fun k hk => absurd hk (by omega))
set_option maxHeartbeats 4000000 in
theorem lp_X7_bestHopper {d : Nat} {Q : pQ} {b : Nat} {D : bD} {ix : Nat → Nat} {S : sS} (M0 : pM) (hS0 : sOk M0.1) (hb_b : isB b) (hC0 : CS M0 b D ix) (hD : bOk D) (hL0 : CL D ix M0 S) (hSo : ∀ i, i < S.1 → sOkE D (S.2 i)) (h17 : S.1 ≤ 17)
    (hQ : ∀ M2, frE b M0 M2 → Q (some (.int (iI (sBst D S)))) M2) :
    ∀ (m h : Nat) (z le : Int) (M : pM) (l5 : Option Value), h + m = 4 → frE b M0 M → z = (if S.1 = 0 then -1 else bst (fun x => mxF (sEn D S x) S.1) h) → (S.1 = 0 → h = 0) → inR le → (0 < h → le = ((mxF (sEn D S z.toNat) S.1 : Nat) : Int)) →
      Go (Ct (d + 4)) Q yX7_bestHopper cX7_bestHopper (some .int) 0 0 7 [some (.ref 270), some (.ref b), some (.int (iI z)), some (.int (iI le)), some (.int (iI ((h : Nat) : Int))), l5] [] M := by
  intro m
  induction m with
  | zero =>
    intro h z le M l5 hm hfr hz h0 hle hl
    obtain rfl : h = 4 := by omega
    refine r_iload4 (pc2 := 9) dX7_bestHopper_7 rfl ?_
    refine r_iconst (pc2 := 10) dX7_bestHopper_9 rfl ?_
    refine r_icge (tgt := 52) (pc2 := 13) dX7_bestHopper_10 rfl (by decide) ⟨by omega, by omega⟩ ⟨by omega, by omega⟩ (fun _ => ?_) (fun h9 => absurd h9 (by decide))
    refine r_iload2 (pc2 := 53) dX7_bestHopper_52 rfl ?_
    refine r_ireti dX7_bestHopper_53 rfl ?_
    rw [hz]; exact hQ M hfr
  | succ m ih =>
    intro h z le M l5 hm hfr hz h0 hle hl
    have hS := hfr.1.ok hS0
    have hL := hL0.fe hb_b hfr
    have hsu := hL.1
    have hmx := mxF_le (e := sEn D S h) (n := S.1)
    obtain ⟨le1, le2⟩ := hle
    by_cases hs0 : S.1 = 0
    · obtain rfl : h = 0 := h0 hs0
      rw [if_pos hs0] at hz
      refine r_iload4 (pc2 := 9) dX7_bestHopper_7 rfl ?_
      refine r_iconst (pc2 := 10) dX7_bestHopper_9 rfl ?_
      refine r_icge (tgt := 52) (pc2 := 13) dX7_bestHopper_10 rfl (by decide) ⟨by omega, by omega⟩ ⟨by omega, by omega⟩ (fun h9 => absurd h9 (by decide)) (fun _ => ?_)
      refine r_aload0 (pc2 := 14) dX7_bestHopper_13 rfl ?_
      refine r_getI (z := ((S.1 : Nat) : Int)) (pc2 := 17) dX7_bestHopper_14 rfl (Or.inl fX7_38) (hK_270 hS) hsu ?_
      refine r_ifle (tgt := 52) (pc2 := 20) dX7_bestHopper_17 rfl (by decide) ⟨by omega, by omega⟩ (fun b_17 => ?_) (fun b_17 => ?_)
      · refine r_iload2 (pc2 := 53) dX7_bestHopper_52 rfl ?_
        refine r_ireti dX7_bestHopper_53 rfl ?_
        rw [hz, show (-1 : Int) = sBst D S from by rw [sBst, if_pos hs0]]; exact hQ M hfr
      · exact absurd b_17 (by omega)
    rw [if_neg hs0] at hz
    have hb := bst_r (mx := fun x => mxF (sEn D S x) S.1) h
    rw [← hz] at hb
    have hbn : bst (fun x => mxF (sEn D S x) S.1) (h + 1) = if z = -1 ∨ mxF (sEn D S h) S.1 < mxF (sEn D S z.toNat) S.1 then (h : Int) else z := by rw [bst, ← hz]
    refine r_iload4 (pc2 := 9) dX7_bestHopper_7 rfl ?_
    refine r_iconst (pc2 := 10) dX7_bestHopper_9 rfl ?_
    refine r_icge (tgt := 52) (pc2 := 13) dX7_bestHopper_10 rfl (by decide) ⟨by omega, by omega⟩ ⟨by omega, by omega⟩ (fun b_10 => ?_) (fun b_10 => ?_)
    · refine r_iload2 (pc2 := 53) dX7_bestHopper_52 rfl ?_
      refine r_ireti dX7_bestHopper_53 rfl ?_
      exact absurd b_10 (by omega)
    · refine r_aload0 (pc2 := 14) dX7_bestHopper_13 rfl ?_
      refine r_getI (z := ((S.1 : Nat) : Int)) (pc2 := 17) dX7_bestHopper_14 rfl (Or.inl fX7_38) (hK_270 hS) hsu ?_
      refine r_ifle (tgt := 52) (pc2 := 20) dX7_bestHopper_17 rfl (by decide) ⟨by omega, by omega⟩ (fun b_17 => ?_) (fun b_17 => ?_)
      · refine r_iload2 (pc2 := 53) dX7_bestHopper_52 rfl ?_
        refine r_ireti dX7_bestHopper_53 rfl ?_
        exact absurd b_17 (by omega)
      · refine r_aload0 (pc2 := 21) dX7_bestHopper_20 rfl ?_
        refine r_aload1 (pc2 := 22) dX7_bestHopper_21 rfl ?_
        refine r_iload4 (pc2 := 24) dX7_bestHopper_22 rfl ?_
        refine r_cv2 (pc2 := 27) dX7_bestHopper_24 rfl vX7_65 (hK_270 hS) (by decide) (c_X7_mostAlike (d := d) (h := h) hS hb_b (hC0.fe hb_b hfr) hD hL hSo h17 (by omega)) ?_
        rintro _ M8 ⟨rfl, f8⟩
        show Go (Ct (d + 4)) _ yX7_bestHopper cX7_bestHopper (some .int) 0 0 27 [some (.ref 270), some (.ref (b)), some (.int (iI z)), some (.int (iI le)), some (.int (iI ((h : Nat) : Int))), l5] [.int (iI ((mxF (sEn D S h) S.1 : Nat) : Int))] M8
        refine r_istore5 (pc2 := 29) dX7_bestHopper_27 rfl rfl ?_
        refine r_iload2 (pc2 := 30) dX7_bestHopper_29 rfl ?_
        refine r_iconst (pc2 := 31) dX7_bestHopper_30 rfl ?_
        refine r_iceq (tgt := 40) (pc2 := 34) dX7_bestHopper_31 rfl (by decide) ⟨by omega, by omega⟩ ⟨by omega, by omega⟩ (fun b_31 => ?_) (fun b_31 => ?_)
        · refine r_iload4 (pc2 := 42) dX7_bestHopper_40 rfl ?_
          refine r_istore2 (pc2 := 43) dX7_bestHopper_42 rfl rfl ?_
          refine r_iload5 (pc2 := 45) dX7_bestHopper_43 rfl ?_
          refine r_istore3 (pc2 := 46) dX7_bestHopper_45 rfl rfl ?_
          refine r_iinc4 (z := ((h + 1 : Nat) : Int)) (pc2 := 49) dX7_bestHopper_46 rfl (by omega) rfl ?_
          refine r_goto (tgt := 7) dX7_bestHopper_49 (by decide) ?_
          refine ih (h + 1) ((h : Nat) : Int) _ M8 _ (by omega) (hfr.tr f8) (by rw [if_neg hs0, hbn, if_pos (Or.inl b_31)]) (fun q => absurd q hs0) ⟨by omega, by omega⟩ (fun _ => by rw [Int.toNat_natCast])
        · refine r_iload5 (pc2 := 36) dX7_bestHopper_34 rfl ?_
          refine r_iload3 (pc2 := 37) dX7_bestHopper_36 rfl ?_
          refine r_icge (tgt := 46) (pc2 := 40) dX7_bestHopper_37 rfl (by decide) ⟨by omega, by omega⟩ ⟨by omega, by omega⟩ (fun b_37 => ?_) (fun b_37 => ?_)
          · refine r_iinc4 (z := ((h + 1 : Nat) : Int)) (pc2 := 49) dX7_bestHopper_46 rfl (by omega) rfl ?_
            refine r_goto (tgt := 7) dX7_bestHopper_49 (by decide) ?_
            refine ih (h + 1) z le M8 _ (by omega) (hfr.tr f8) (by rw [if_neg hs0, hbn, if_neg (by have := hl (by omega); omega)]) (fun q => absurd q hs0) ⟨by omega, by omega⟩ (fun _ => hl (by omega))
          · refine r_iload4 (pc2 := 42) dX7_bestHopper_40 rfl ?_
            refine r_istore2 (pc2 := 43) dX7_bestHopper_42 rfl rfl ?_
            refine r_iload5 (pc2 := 45) dX7_bestHopper_43 rfl ?_
            refine r_istore3 (pc2 := 46) dX7_bestHopper_45 rfl rfl ?_
            refine r_iinc4 (z := ((h + 1 : Nat) : Int)) (pc2 := 49) dX7_bestHopper_46 rfl (by omega) rfl ?_
            refine r_goto (tgt := 7) dX7_bestHopper_49 (by decide) ?_
            refine ih (h + 1) ((h : Nat) : Int) _ M8 _ (by omega) (hfr.tr f8) (by rw [if_neg hs0, hbn, if_pos (Or.inr (by have := hl (by omega); omega))]) (fun q => absurd q hs0) ⟨by omega, by omega⟩ (fun _ => by rw [Int.toNat_natCast])
set_option maxHeartbeats 4000000 in
theorem c_X7_bestHopper {d : Nat} {M : pM} {b : Nat} {D : bD} {ix : Nat → Nat} {S : sS} (hS : sOk M.1) (hb_b : isB b) (hC : CS M b D ix) (hD : bOk D) (hL : CL D ix M S) (hSo : ∀ i, i < S.1 → sOkE D (S.2 i)) (h17 : S.1 ≤ 17) : Ct (d + 5) 0 0 yX7_bestHopper [.ref 270, .ref (b)] M (fun v M2 => v = some (.int (iI (sBst D S))) ∧ frE b M M2) := by
  refine ct_in (d := (d + 4)) kX7_bestHopper rfl (by decide) (Nat.le_of_ble_eq_true rfl) (by decide) ?_
  show Go (Ct (d + 4)) _ yX7_bestHopper cX7_bestHopper (some .int) 0 0 0 [some (.ref 270), some (.ref (b)), none, none, none, none] [] M
  refine r_iconst (pc2 := 1) dX7_bestHopper_0 rfl ?_
  refine r_istore2 (pc2 := 2) dX7_bestHopper_1 rfl rfl ?_
  refine r_iconst (pc2 := 3) dX7_bestHopper_2 rfl ?_
  refine r_istore3 (pc2 := 4) dX7_bestHopper_3 rfl rfl ?_
  refine r_iconst (pc2 := 5) dX7_bestHopper_4 rfl ?_
  refine r_istore4 (pc2 := 7) dX7_bestHopper_5 rfl rfl ?_
  refine lp_X7_bestHopper (d := d) M hS hb_b hC hD hL hSo h17 (fun M2 hf => ⟨rfl, hf⟩) 4 0 (-1) 0 M _ (by omega) frE.rf ?_ (fun _ => rfl) ⟨by omega, by omega⟩ (fun q => absurd q (by omega))
  split
  · rfl
  · rfl
