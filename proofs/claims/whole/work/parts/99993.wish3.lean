/-! wish: the model -/
def frKw (M M2 : pM) : Prop := fr [317, 345, 346] M M2 ∧ (∀ j, j ≠ 0 → j ≠ 45 → M2.2.1 317 j = M.2.1 317 j) ∧ M2.2.1 317 0 = 0
theorem frKw.z {M : pM} : frKw M (pI M 317 0 0) := ⟨fr.rf.I (by decide), fun j h _ => by rw [pI_nk h], pI_at⟩
theorem frKw.n {M M1 : pM} {x : Int} (h : fr [345, 346] (pI M 317 0 0) M1) : frKw M (pI M1 317 45 x) := ⟨(fr.tr (fr.rf.I (k := 0) (z := 0) (by decide)) (h.mono (by decide))).I (by decide), fun j h1 h2 => by rw [pI_nk h2, h.i (by decide), pI_nk h1], by rw [pI_nk (by decide), h.i (by decide), pI_at]⟩
theorem m4_7 {M : pM} {i j : Nat} {x y z : Int} : (pI (pI (pI (pI M 317 0 0) 345 i y) 346 j z) 317 45 x).2.1 345 = va_up (M.2.1 345) i y := by rw [pI_ne (by decide), pI_ne (by decide), pI_eq, pI_ne (by decide)]
theorem m4_8 {M : pM} {i j : Nat} {x y z : Int} : (pI (pI (pI (pI M 317 0 0) 345 i y) 346 j z) 317 45 x).2.1 346 = va_up (M.2.1 346) j z := by rw [pI_ne (by decide), pI_eq, pI_ne (by decide), pI_ne (by decide)]
def WMq (r : Int × Nat × (Nat → Int)) (M : pM) (v : Option Value) (M2 : pM) : Prop := v = some (.int (iI r.1)) ∧ MWs M2 r.2.1 r.2.2 ∧ frKw M M2
theorem MWs.z {M : pM} {n : Nat} {W : Nat → Int} (h : MWs M n W) : MWs (pI M 317 0 0) n W := ⟨by rw [pI_nk (by decide)]; exact h.1, by rw [pI_ne (by decide), pI_ne (by decide)]; exact h.2⟩
set_option maxHeartbeats 4000000 in
theorem lp_X12_wish {d : Nat} {Q : pQ} {n q k : Nat} {x y w : Int} (M0 : pM) (hS0 : sOk M0.1) (hn0 : M0.2.1 317 45 = ((n + 1 : Nat) : Int)) (hn2 : n < 12)
    (hQ : ∀ M2, fr [345, 346] M0 M2 → (∀ t, t < n → M2.2.1 345 t = M0.2.1 345 (if t < k then t else t + 1) ∧ M2.2.1 346 t = M0.2.1 346 (if t < k then t else t + 1)) → Q (some (.int (iI 1))) (pI M2 317 45 (((n : Nat) : Int)))) :
    ∀ (m j : Nat) (M : pM), j + m = n → k ≤ j → fr [345, 346] M0 M → (∀ t, t < 12 → M.2.1 345 t = M0.2.1 345 (if k ≤ t ∧ t < j then t + 1 else t) ∧ M.2.1 346 t = M0.2.1 346 (if k ≤ t ∧ t < j then t + 1 else t)) → Go (Ct (d + 1)) Q yX12_wish cX12_wish (some .boolean) 0 0 61 [some (.ref 317), some (.int (iI x)), some (.int (iI y)), some (.int (iI w)), some (.int (iI ((q : Nat) : Int))), some (.int (iI ((k : Nat) : Int))), some (.int (iI ((j : Nat) : Int)))] [] M := by
  intro m
  induction m with
  | zero =>
    intro j M hm hk hfr hv
    obtain rfl : j = n := by omega
    have hS := hfr.ok hS0
    have hn : M.2.1 317 45 = ((j + 1 : Nat) : Int) := by rw [hfr.i (by decide)]; exact hn0
    refine r_iload6 (pc2 := 63) dX12_wish_61 rfl ?_
    refine r_iconst (pc2 := 64) dX12_wish_63 rfl ?_
    refine r_iadd (c := ((j + 1 : Nat) : Int)) (pc2 := 65) dX12_wish_64 rfl (by omega) ?_
    refine r_aload0 (pc2 := 66) dX12_wish_65 rfl ?_
    refine r_getI (z := ((j + 1 : Nat) : Int)) (pc2 := 69) dX12_wish_66 rfl (Or.inl fX12_376) (hK_317 hS) hn ?_
    refine r_icge (tgt := 110) (pc2 := 72) dX12_wish_69 rfl (by decide) ⟨by omega, by omega⟩ ⟨by omega, by omega⟩ (fun b_69 => ?_) (fun b_69 => ?_)
    · refine r_aload0 (pc2 := 111) dX12_wish_110 rfl ?_
      refine r_dup (pc2 := 112) dX12_wish_111 rfl rfl ?_
      refine r_getI (z := ((j + 1 : Nat) : Int)) (pc2 := 115) dX12_wish_112 rfl (Or.inl fX12_376) (hK_317 hS) hn ?_
      refine r_iconst (pc2 := 116) dX12_wish_115 rfl ?_
      refine r_isub (c := ((j : Nat) : Int)) (pc2 := 117) dX12_wish_116 rfl (by omega) ?_
      refine r_putI (z := ((j : Nat) : Int)) (pc2 := 120) dX12_wish_117 rfl fX12_376 (w12_45 _) (hK_317 hS) (by decide) ?_
      refine r_iconst (pc2 := 121) dX12_wish_120 rfl ?_
      refine r_iretz dX12_wish_121 rfl (by omega) ?_
      refine hQ M hfr (fun t ht => ?_)
      have h9 := hv t (by omega)
      by_cases u : t < k
      · rw [if_neg (by omega)] at h9; rw [if_pos u]; exact h9
      · rw [if_pos (by omega)] at h9; rw [if_neg u]; exact h9
    · exact absurd b_69 (by omega)
  | succ m ih =>
    intro j M hm hk hfr hv
    have hS := hfr.ok hS0
    have hn : M.2.1 317 45 = ((n + 1 : Nat) : Int) := by rw [hfr.i (by decide)]; exact hn0
    have h9 := hv (j + 1) (by omega)
    rw [if_neg (by omega)] at h9
    refine r_iload6 (pc2 := 63) dX12_wish_61 rfl ?_
    refine r_iconst (pc2 := 64) dX12_wish_63 rfl ?_
    refine r_iadd (c := ((j + 1 : Nat) : Int)) (pc2 := 65) dX12_wish_64 rfl (by omega) ?_
    refine r_aload0 (pc2 := 66) dX12_wish_65 rfl ?_
    refine r_getI (z := ((n + 1 : Nat) : Int)) (pc2 := 69) dX12_wish_66 rfl (Or.inl fX12_376) (hK_317 hS) hn ?_
    refine r_icge (tgt := 110) (pc2 := 72) dX12_wish_69 rfl (by decide) ⟨by omega, by omega⟩ ⟨by omega, by omega⟩ (fun b_69 => ?_) (fun b_69 => ?_)
    · exact absurd b_69 (by omega)
    · refine r_aload0 (pc2 := 73) dX12_wish_72 rfl ?_
      refine r_getR (pc2 := 76) dX12_wish_73 rfl fX12_138 (hK_317 hS) (hR_317_46 hS) ?_
      refine r_iload6 (pc2 := 78) dX12_wish_76 rfl ?_
      refine r_aload0 (pc2 := 79) dX12_wish_78 rfl ?_
      refine r_getR (pc2 := 82) dX12_wish_79 rfl fX12_138 (hK_317 hS) (hR_317_46 hS) ?_
      refine r_iload6 (pc2 := 84) dX12_wish_82 rfl ?_
      refine r_iconst (pc2 := 85) dX12_wish_84 rfl ?_
      refine r_iadd (c := ((j + 1 : Nat) : Int)) (pc2 := 86) dX12_wish_85 rfl (by omega) ?_
      refine r_iald (z := (M0.2.1 345 (j + 1))) (pc2 := 87) dX12_wish_86 rfl (hK_345 hS) (j + 1) rfl (by omega) h9.1 ?_
      refine r_iast (z := (M0.2.1 345 (j + 1))) (pc2 := 88) dX12_wish_87 rfl (hK_345 hS) (by decide) j rfl (by omega) ?_
      refine r_aload0 (pc2 := 89) dX12_wish_88 rfl ?_
      refine r_getR (pc2 := 92) dX12_wish_89 rfl fX12_141 (hK_317 hS) (hR_317_47 hS) ?_
      refine r_iload6 (pc2 := 94) dX12_wish_92 rfl ?_
      refine r_aload0 (pc2 := 95) dX12_wish_94 rfl ?_
      refine r_getR (pc2 := 98) dX12_wish_95 rfl fX12_141 (hK_317 hS) (hR_317_47 hS) ?_
      refine r_iload6 (pc2 := 100) dX12_wish_98 rfl ?_
      refine r_iconst (pc2 := 101) dX12_wish_100 rfl ?_
      refine r_iadd (c := ((j + 1 : Nat) : Int)) (pc2 := 102) dX12_wish_101 rfl (by omega) ?_
      refine r_iald (z := (M0.2.1 346 (j + 1))) (pc2 := 103) dX12_wish_102 rfl (hK_346 hS) (j + 1) rfl (by omega) h9.2 ?_
      refine r_iast (z := (M0.2.1 346 (j + 1))) (pc2 := 104) dX12_wish_103 rfl (hK_346 hS) (by decide) j rfl (by omega) ?_
      refine r_iinc6 (z := ((j + 1 : Nat) : Int)) (pc2 := 107) dX12_wish_104 rfl (by omega) rfl ?_
      refine r_goto (tgt := 61) dX12_wish_107 (by decide) ?_
      refine ih (j + 1) _ (by omega) (by omega) ((hfr.I (by decide)).I (by decide)) (fun t ht => ?_)
      rw [show (pI (pI M 345 j (M0.2.1 345 (j + 1))) 346 j (M0.2.1 346 (j + 1))).2.1 345 = va_up (M.2.1 345) j (M0.2.1 345 (j + 1)) by rw [pI_ne (by decide), pI_eq], show (pI (pI M 345 j (M0.2.1 345 (j + 1))) 346 j (M0.2.1 346 (j + 1))).2.1 346 = va_up (M.2.1 346) j (M0.2.1 346 (j + 1)) by rw [pI_eq, pI_ne (by decide)]]
      by_cases u : t = j
      · subst u; rw [up_at, up_at, if_pos (by omega)]; exact ⟨rfl, rfl⟩
      · rw [up_ne u, up_ne u]
        have h8 := hv t ht
        by_cases u2 : k ≤ t ∧ t < j
        · rw [if_pos u2] at h8; rw [if_pos (by omega)]; exact h8
        · rw [if_neg u2] at h8; rw [if_neg (by omega)]; exact h8
set_option maxHeartbeats 4000000 in
theorem c_X12_wishN {d : Nat} {M : pM} {x y w : Int} {n : Nat} {pc W : Nat → Int} (hS : sOk M.1) (hw : MWs M n W) (hxr : inR x) (hyr : inR y) (hwr : inR w) (hz : ∀ q, q < 156 → M.2.1 328 q = pc q ∧ 0 ≤ pc q ∧ pc q ≤ 9) (hnk : ¬ wsK x y w) : Ct (d + 2) 0 0 yX12_wish [.ref 317, .int (iI x), .int (iI y), .int (iI w)] M (fun v M2 => v = some (.int (iI 0)) ∧ M2 = pI M 317 0 0) := by
  refine ct_in (d := (d + 1)) kX12_wish rfl (by decide) (Nat.le_of_ble_eq_true rfl) (by decide) ?_
  show Go (Ct (d + 1)) _ yX12_wish cX12_wish (some .boolean) 0 0 0 [some (.ref 317), some (.int (iI x)), some (.int (iI y)), some (.int (iI w)), none, none, none] [] M
  have hwr2 := hwr
  unfold inR at hwr2
  refine r_aload0 (pc2 := 1) dX12_wish_0 rfl ?_
  refine r_iconst (pc2 := 2) dX12_wish_1 rfl ?_
  refine r_putI (z := 0) (pc2 := 5) dX12_wish_2 rfl fX12_1 (w12_0 _) (hK_317 hS) (by decide) ?_
  refine r_iload1 (pc2 := 6) dX12_wish_5 rfl ?_
  refine r_iload2 (pc2 := 7) dX12_wish_6 rfl ?_
  refine r_cs2 (pc2 := 10) dX12_wish_7 rfl sX12_379 (by decide) (c_X12_isPlace (d := d) (c := x) (r := y) hxr hyr) ?_
  by_cases hp : 0 ≤ x ∧ x < 13 ∧ 0 ≤ y ∧ y < 12
  · rintro _ M9 ⟨rfl, h9⟩
    rw [h9, show (if 0 ≤ x ∧ x < 13 ∧ 0 ≤ y ∧ y < 12 then (1 : Int) else 0) = 1 from if_pos hp]
    show Go (Ct (d + 1)) _ yX12_wish cX12_wish (some .boolean) 0 0 10 [some (.ref 317), some (.int (iI x)), some (.int (iI y)), some (.int (iI w)), none, none, none] [.int (iI 1)] (pI M 317 0 0)
    refine r_ifeq (tgt := 22) (pc2 := 13) dX12_wish_10 rfl (by decide) ⟨by omega, by omega⟩ (fun h9 => absurd h9 (by decide)) (fun _ => ?_)
    refine r_iload3 (pc2 := 14) dX12_wish_13 rfl ?_
    refine r_iflt (tgt := 22) (pc2 := 17) dX12_wish_14 rfl (by decide) ⟨by omega, by omega⟩ (fun b_14 => ?_) (fun b_14 => ?_)
    · refine r_iconst (pc2 := 23) dX12_wish_22 rfl ?_
      refine r_iretz dX12_wish_23 rfl (by omega) ?_
      exact ⟨rfl, rfl⟩
    · refine r_iload3 (pc2 := 18) dX12_wish_17 rfl ?_
      refine r_iconst (pc2 := 19) dX12_wish_18 rfl ?_
      refine r_icle (tgt := 24) (pc2 := 22) dX12_wish_19 rfl (by decide) ⟨by omega, by omega⟩ ⟨by omega, by omega⟩ (fun b_19 => ?_) (fun b_19 => ?_)
      · exact absurd ⟨hp, by omega, by omega⟩ hnk
      · refine r_iconst (pc2 := 23) dX12_wish_22 rfl ?_
        refine r_iretz dX12_wish_23 rfl (by omega) ?_
        exact ⟨rfl, rfl⟩
  · rintro _ M9 ⟨rfl, h9⟩
    rw [h9, show (if 0 ≤ x ∧ x < 13 ∧ 0 ≤ y ∧ y < 12 then (1 : Int) else 0) = 0 from if_neg hp]
    show Go (Ct (d + 1)) _ yX12_wish cX12_wish (some .boolean) 0 0 10 [some (.ref 317), some (.int (iI x)), some (.int (iI y)), some (.int (iI w)), none, none, none] [.int (iI 0)] (pI M 317 0 0)
    refine r_ifeq (tgt := 22) (pc2 := 13) dX12_wish_10 rfl (by decide) ⟨by omega, by omega⟩ (fun _ => ?_) (fun h9 => absurd h9 (by decide))
    refine r_iconst (pc2 := 23) dX12_wish_22 rfl ?_
    refine r_iretz dX12_wish_23 rfl (by omega) ?_
    exact ⟨rfl, rfl⟩
set_option maxHeartbeats 4000000 in
theorem c_X12_wishA {d : Nat} {M : pM} {x y w : Int} {n q : Nat} {pc W : Nat → Int} (hS : sOk M.1) (hw : MWs M n W) (hxr : inR x) (hyr : inR y) (hwr : inR w) (hz : ∀ q, q < 156 → M.2.1 328 q = pc q ∧ 0 ≤ pc q ∧ pc q ≤ 9) (hk : wsK x y w) (eq : q = (13 * y + x).toNat) (hq : q < 156) (w0 : W q < 0) (hno : ∀ i, i < n → M.2.1 345 i ≠ (q : Int)) : Ct (d + 2) 0 0 yX12_wish [.ref 317, .int (iI x), .int (iI y), .int (iI w)] M (fun v M2 => WMq (wsF (pc q) n W q w) M v M2) := by
  refine ct_in (d := (d + 1)) kX12_wish rfl (by decide) (Nat.le_of_ble_eq_true rfl) (by decide) ?_
  show Go (Ct (d + 1)) _ yX12_wish cX12_wish (some .boolean) 0 0 0 [some (.ref 317), some (.int (iI x)), some (.int (iI y)), some (.int (iI w)), none, none, none] [] M
  have hn0 : (pI M 317 0 0).2.1 317 45 = ((n : Nat) : Int) := by rw [pI_nk (by decide)]; exact hw.1
  have hn2 := hw.2.1
  have hwr2 := hwr
  unfold inR at hwr2
  have hf : ∀ i, i < n → 0 ≤ (pI M 317 0 0).2.1 345 i ∧ (pI M 317 0 0).2.1 345 i < 156 := fun i hi => by rw [pI_ne (by decide)]; exact ⟨(hw.2.2.1 i hi).1, (hw.2.2.1 i hi).2.1⟩
  have hu : ∀ i j, i < n → j < n → (pI M 317 0 0).2.1 345 i = (pI M 317 0 0).2.1 345 j → i = j := by rw [pI_ne (by decide)]; exact hw.2.2.2.2
  have h45 : M.2.1 317 45 = ((n : Nat) : Int) := hw.1
  refine r_aload0 (pc2 := 1) dX12_wish_0 rfl ?_
  refine r_iconst (pc2 := 2) dX12_wish_1 rfl ?_
  refine r_putI (z := 0) (pc2 := 5) dX12_wish_2 rfl fX12_1 (w12_0 _) (hK_317 hS) (by decide) ?_
  refine r_iload1 (pc2 := 6) dX12_wish_5 rfl ?_
  refine r_iload2 (pc2 := 7) dX12_wish_6 rfl ?_
  refine r_cs2 (pc2 := 10) dX12_wish_7 rfl sX12_379 (by decide) (c_X12_isPlace (d := d) (c := x) (r := y) hxr hyr) ?_
  rintro _ M9 ⟨rfl, h9⟩
  rw [h9, show (if 0 ≤ x ∧ x < 13 ∧ 0 ≤ y ∧ y < 12 then (1 : Int) else 0) = 1 from if_pos hk.1]
  show Go (Ct (d + 1)) _ yX12_wish cX12_wish (some .boolean) 0 0 10 [some (.ref 317), some (.int (iI x)), some (.int (iI y)), some (.int (iI w)), none, none, none] [.int (iI 1)] (pI M 317 0 0)
  refine r_ifeq (tgt := 22) (pc2 := 13) dX12_wish_10 rfl (by decide) ⟨by omega, by omega⟩ (fun h9 => absurd h9 (by decide)) (fun _ => ?_)
  refine r_iload3 (pc2 := 14) dX12_wish_13 rfl ?_
  refine r_iflt (tgt := 22) (pc2 := 17) dX12_wish_14 rfl (by decide) ⟨by omega, by omega⟩ (fun b_14 => ?_) (fun b_14 => ?_)
  · refine r_iconst (pc2 := 23) dX12_wish_22 rfl ?_
    refine r_iretz dX12_wish_23 rfl (by omega) ?_
    exact absurd hk.2 (by omega)
  · refine r_iload3 (pc2 := 18) dX12_wish_17 rfl ?_
    refine r_iconst (pc2 := 19) dX12_wish_18 rfl ?_
    refine r_icle (tgt := 24) (pc2 := 22) dX12_wish_19 rfl (by decide) ⟨by omega, by omega⟩ ⟨by omega, by omega⟩ (fun b_19 => ?_) (fun b_19 => ?_)
    · refine r_bipush (pc2 := 26) dX12_wish_24 rfl (by decide) (by decide) ?_
      refine r_iload2 (pc2 := 27) dX12_wish_26 rfl ?_
      refine r_imul (c := (13 * y)) (pc2 := 28) dX12_wish_27 rfl rfl ?_
      refine r_iload1 (pc2 := 29) dX12_wish_28 rfl ?_
      refine r_iadd (c := ((q : Nat) : Int)) (pc2 := 30) dX12_wish_29 rfl (by omega) ?_
      refine r_istore4 (pc2 := 32) dX12_wish_30 rfl rfl ?_
      refine r_aload0 (pc2 := 33) dX12_wish_32 rfl ?_
      refine r_iload4 (pc2 := 35) dX12_wish_33 rfl ?_
      refine r_cv1 (pc2 := 38) dX12_wish_35 rfl vX12_382 (hK_317 hS) (by decide) (c_X12_findWish (d := d) (M := pI M 317 0 0) (n := n) (q := q) (z := -1) hS hn0 hn2 hf hq (Or.inl ⟨rfl, by rw [pI_ne (by decide)]; exact hno⟩) hu) ?_
      rintro _ M9 ⟨rfl, h9⟩
      rw [h9]
      show Go (Ct (d + 1)) _ yX12_wish cX12_wish (some .boolean) 0 0 38 [some (.ref 317), some (.int (iI x)), some (.int (iI y)), some (.int (iI w)), some (.int (iI ((q : Nat) : Int))), none, none] [.int (iI (-1))] (pI M 317 0 0)
      refine r_istore5 (pc2 := 40) dX12_wish_38 rfl rfl ?_
      refine r_iload3 (pc2 := 41) dX12_wish_40 rfl ?_
      refine r_iconst (pc2 := 42) dX12_wish_41 rfl ?_
      refine r_icne (tgt := 122) (pc2 := 45) dX12_wish_42 rfl (by decide) ⟨by omega, by omega⟩ ⟨by omega, by omega⟩ (fun b_42 => ?_) (fun b_42 => ?_)
      · refine r_aload0 (pc2 := 123) dX12_wish_122 rfl ?_
        refine r_iload4 (pc2 := 125) dX12_wish_123 rfl ?_
        refine r_cv1 (pc2 := 128) dX12_wish_125 rfl vX12_385 (hK_317 hS) (by decide) (c_X12_showsSides (d := d) (M := pI M 317 0 0) (q := q) (z := pc q) hS hq (by rw [pI_ne (by decide)]; exact (hz q hq).1) (hz q hq).2) ?_
        by_cases ht : pc q = 4 ∨ pc q = 9
        · rintro _ M9 ⟨rfl, h9⟩
          rw [h9, show (if pc q = 4 ∨ pc q = 9 then (1 : Int) else 0) = 1 from if_pos ht]
          show Go (Ct (d + 1)) _ yX12_wish cX12_wish (some .boolean) 0 0 128 [some (.ref 317), some (.int (iI x)), some (.int (iI y)), some (.int (iI w)), some (.int (iI ((q : Nat) : Int))), some (.int (iI (-1))), none] [.int (iI 1)] (pI M 317 0 0)
          refine r_ifeq (tgt := 145) (pc2 := 131) dX12_wish_128 rfl (by decide) ⟨by omega, by omega⟩ (fun h9 => absurd h9 (by decide)) (fun _ => ?_)
          refine r_iload5 (pc2 := 133) dX12_wish_131 rfl ?_
          refine r_ifge (tgt := 147) (pc2 := 136) dX12_wish_133 rfl (by decide) ⟨by omega, by omega⟩ (fun h9 => absurd h9 (by decide)) (fun _ => ?_)
          refine r_aload0 (pc2 := 137) dX12_wish_136 rfl ?_
          refine r_getI (z := ((n : Nat) : Int)) (pc2 := 140) dX12_wish_137 rfl (Or.inl fX12_376) (hK_317 hS) h45 ?_
          refine r_bipush (pc2 := 142) dX12_wish_140 rfl (by decide) (by decide) ?_
          refine r_icne (tgt := 147) (pc2 := 145) dX12_wish_142 rfl (by decide) ⟨by omega, by omega⟩ ⟨by omega, by omega⟩ (fun b_142 => ?_) (fun b_142 => ?_)
          · refine r_iload5 (pc2 := 149) dX12_wish_147 rfl ?_
            refine r_ifge (tgt := 159) (pc2 := 152) dX12_wish_149 rfl (by decide) ⟨by omega, by omega⟩ (fun h9 => absurd h9 (by decide)) (fun _ => ?_)
            refine r_aload0 (pc2 := 153) dX12_wish_152 rfl ?_
            refine r_getI (z := ((n : Nat) : Int)) (pc2 := 156) dX12_wish_153 rfl (Or.inl fX12_376) (hK_317 hS) h45 ?_
            refine r_goto (tgt := 161) dX12_wish_156 (by decide) ?_
            refine r_istore6 (pc2 := 163) dX12_wish_161 rfl rfl ?_
            refine r_aload0 (pc2 := 164) dX12_wish_163 rfl ?_
            refine r_getR (pc2 := 167) dX12_wish_164 rfl fX12_138 (hK_317 hS) (hR_317_46 hS) ?_
            refine r_iload6 (pc2 := 169) dX12_wish_167 rfl ?_
            refine r_iload4 (pc2 := 171) dX12_wish_169 rfl ?_
            refine r_iast (z := ((q : Nat) : Int)) (pc2 := 172) dX12_wish_171 rfl (hK_345 hS) (by decide) n rfl (by omega) ?_
            refine r_aload0 (pc2 := 173) dX12_wish_172 rfl ?_
            refine r_getR (pc2 := 176) dX12_wish_173 rfl fX12_141 (hK_317 hS) (hR_317_47 hS) ?_
            refine r_iload6 (pc2 := 178) dX12_wish_176 rfl ?_
            refine r_iload3 (pc2 := 179) dX12_wish_178 rfl ?_
            refine r_iast (z := w) (pc2 := 180) dX12_wish_179 rfl (hK_346 hS) (by decide) n rfl (by omega) ?_
            refine r_aload0 (pc2 := 181) dX12_wish_180 rfl ?_
            refine r_dup (pc2 := 182) dX12_wish_181 rfl rfl ?_
            refine r_getI (z := ((n : Nat) : Int)) (pc2 := 185) dX12_wish_182 rfl (Or.inl fX12_376) (hK_317 hS) h45 ?_
            refine r_iload5 (pc2 := 187) dX12_wish_185 rfl ?_
            refine r_ifge (tgt := 194) (pc2 := 190) dX12_wish_187 rfl (by decide) ⟨by omega, by omega⟩ (fun h9 => absurd h9 (by decide)) (fun _ => ?_)
            refine r_iconst (pc2 := 191) dX12_wish_190 rfl ?_
            refine r_goto (tgt := 195) dX12_wish_191 (by decide) ?_
            refine r_iadd (c := ((n + 1 : Nat) : Int)) (pc2 := 196) dX12_wish_195 rfl (by omega) ?_
            refine r_putI (z := ((n + 1 : Nat) : Int)) (pc2 := 199) dX12_wish_196 rfl fX12_376 (w12_45 _) (hK_317 hS) (by decide) ?_
            refine r_iconst (pc2 := 200) dX12_wish_199 rfl ?_
            refine r_iretz dX12_wish_200 rfl (by omega) ?_
            rw [wsF, if_neg (by omega), if_pos ht, if_pos w0, if_neg (by omega)]
            refine ⟨rfl, ⟨pI_at, ?_⟩, frKw.n ((fr.rf.I (by decide)).I (by decide))⟩
            refine hw.2.ad (by omega) hq (by omega) w0 (fun j hj => ?_) ?_ ?_
            · rw [m4_7, m4_8, up_ne (by omega), up_ne (by omega)]; exact ⟨rfl, rfl⟩
            · rw [m4_7, up_at]
            · rw [m4_8, up_at]
          · refine r_iconst (pc2 := 146) dX12_wish_145 rfl ?_
            refine r_iretz dX12_wish_146 rfl (by omega) ?_
            rw [wsF, if_neg (by omega), if_pos ht, if_pos w0, if_pos (by omega)]
            exact ⟨rfl, hw.z, frKw.z⟩
        · rintro _ M9 ⟨rfl, h9⟩
          rw [h9, show (if pc q = 4 ∨ pc q = 9 then (1 : Int) else 0) = 0 from if_neg ht]
          show Go (Ct (d + 1)) _ yX12_wish cX12_wish (some .boolean) 0 0 128 [some (.ref 317), some (.int (iI x)), some (.int (iI y)), some (.int (iI w)), some (.int (iI ((q : Nat) : Int))), some (.int (iI (-1))), none] [.int (iI 0)] (pI M 317 0 0)
          refine r_ifeq (tgt := 145) (pc2 := 131) dX12_wish_128 rfl (by decide) ⟨by omega, by omega⟩ (fun _ => ?_) (fun h9 => absurd h9 (by decide))
          refine r_iconst (pc2 := 146) dX12_wish_145 rfl ?_
          refine r_iretz dX12_wish_146 rfl (by omega) ?_
          rw [wsF, if_neg (by omega), if_neg ht]
          exact ⟨rfl, hw.z, frKw.z⟩
      · refine r_iload5 (pc2 := 47) dX12_wish_45 rfl ?_
        refine r_ifge (tgt := 57) (pc2 := 50) dX12_wish_47 rfl (by decide) ⟨by omega, by omega⟩ (fun h9 => absurd h9 (by decide)) (fun _ => ?_)
        refine r_aload0 (pc2 := 51) dX12_wish_50 rfl ?_
        refine r_iload4 (pc2 := 53) dX12_wish_51 rfl ?_
        refine r_cv1 (pc2 := 56) dX12_wish_53 rfl vX12_385 (hK_317 hS) (by decide) (c_X12_showsSides (d := d) (M := pI M 317 0 0) (q := q) (z := pc q) hS hq (by rw [pI_ne (by decide)]; exact (hz q hq).1) (hz q hq).2) ?_
        by_cases ht : pc q = 4 ∨ pc q = 9
        · rintro _ M9 ⟨rfl, h9⟩
          rw [h9, show (if pc q = 4 ∨ pc q = 9 then (1 : Int) else 0) = 1 from if_pos ht]
          show Go (Ct (d + 1)) _ yX12_wish cX12_wish (some .boolean) 0 0 56 [some (.ref 317), some (.int (iI x)), some (.int (iI y)), some (.int (iI w)), some (.int (iI ((q : Nat) : Int))), some (.int (iI (-1))), none] [.int (iI 1)] (pI M 317 0 0)
          refine r_iretz dX12_wish_56 rfl (by omega) ?_
          rw [show w = 2 by omega, wsF, if_pos rfl, if_pos w0, if_pos ht]
          exact ⟨rfl, hw.z, frKw.z⟩
        · rintro _ M9 ⟨rfl, h9⟩
          rw [h9, show (if pc q = 4 ∨ pc q = 9 then (1 : Int) else 0) = 0 from if_neg ht]
          show Go (Ct (d + 1)) _ yX12_wish cX12_wish (some .boolean) 0 0 56 [some (.ref 317), some (.int (iI x)), some (.int (iI y)), some (.int (iI w)), some (.int (iI ((q : Nat) : Int))), some (.int (iI (-1))), none] [.int (iI 0)] (pI M 317 0 0)
          refine r_iretz dX12_wish_56 rfl (by omega) ?_
          rw [show w = 2 by omega, wsF, if_pos rfl, if_pos w0, if_neg ht]
          exact ⟨rfl, hw.z, frKw.z⟩
    · refine r_iconst (pc2 := 23) dX12_wish_22 rfl ?_
      refine r_iretz dX12_wish_23 rfl (by omega) ?_
      exact absurd hk.2 (by omega)
set_option maxHeartbeats 4000000 in
theorem c_X12_wishB {d : Nat} {M : pM} {x y w : Int} {n q k : Nat} {pc W : Nat → Int} (hS : sOk M.1) (hw : MWs M (n + 1) W) (hxr : inR x) (hyr : inR y) (hwr : inR w) (hz : ∀ q, q < 156 → M.2.1 328 q = pc q ∧ 0 ≤ pc q ∧ pc q ≤ 9) (hk : wsK x y w) (eq : q = (13 * y + x).toNat) (hq : q < 156) (w0 : 0 ≤ W q) (hkn : k < n + 1) (ek : M.2.1 345 k = (q : Int)) : Ct (d + 2) 0 0 yX12_wish [.ref 317, .int (iI x), .int (iI y), .int (iI w)] M (fun v M2 => WMq (wsF (pc q) (n + 1) W q w) M v M2) := by
  refine ct_in (d := (d + 1)) kX12_wish rfl (by decide) (Nat.le_of_ble_eq_true rfl) (by decide) ?_
  show Go (Ct (d + 1)) _ yX12_wish cX12_wish (some .boolean) 0 0 0 [some (.ref 317), some (.int (iI x)), some (.int (iI y)), some (.int (iI w)), none, none, none] [] M
  have hn0 : (pI M 317 0 0).2.1 317 45 = ((n + 1 : Nat) : Int) := by rw [pI_nk (by decide)]; exact hw.1
  have hn2 := hw.2.1
  have hwr2 := hwr
  unfold inR at hwr2
  have hf : ∀ i, i < n + 1 → 0 ≤ (pI M 317 0 0).2.1 345 i ∧ (pI M 317 0 0).2.1 345 i < 156 := fun i hi => by rw [pI_ne (by decide)]; exact ⟨(hw.2.2.1 i hi).1, (hw.2.2.1 i hi).2.1⟩
  have hu : ∀ i j, i < n + 1 → j < n + 1 → (pI M 317 0 0).2.1 345 i = (pI M 317 0 0).2.1 345 j → i = j := by rw [pI_ne (by decide)]; exact hw.2.2.2.2
  have h45 : M.2.1 317 45 = ((n + 1 : Nat) : Int) := hw.1
  refine r_aload0 (pc2 := 1) dX12_wish_0 rfl ?_
  refine r_iconst (pc2 := 2) dX12_wish_1 rfl ?_
  refine r_putI (z := 0) (pc2 := 5) dX12_wish_2 rfl fX12_1 (w12_0 _) (hK_317 hS) (by decide) ?_
  refine r_iload1 (pc2 := 6) dX12_wish_5 rfl ?_
  refine r_iload2 (pc2 := 7) dX12_wish_6 rfl ?_
  refine r_cs2 (pc2 := 10) dX12_wish_7 rfl sX12_379 (by decide) (c_X12_isPlace (d := d) (c := x) (r := y) hxr hyr) ?_
  rintro _ M9 ⟨rfl, h9⟩
  rw [h9, show (if 0 ≤ x ∧ x < 13 ∧ 0 ≤ y ∧ y < 12 then (1 : Int) else 0) = 1 from if_pos hk.1]
  show Go (Ct (d + 1)) _ yX12_wish cX12_wish (some .boolean) 0 0 10 [some (.ref 317), some (.int (iI x)), some (.int (iI y)), some (.int (iI w)), none, none, none] [.int (iI 1)] (pI M 317 0 0)
  refine r_ifeq (tgt := 22) (pc2 := 13) dX12_wish_10 rfl (by decide) ⟨by omega, by omega⟩ (fun h9 => absurd h9 (by decide)) (fun _ => ?_)
  refine r_iload3 (pc2 := 14) dX12_wish_13 rfl ?_
  refine r_iflt (tgt := 22) (pc2 := 17) dX12_wish_14 rfl (by decide) ⟨by omega, by omega⟩ (fun b_14 => ?_) (fun b_14 => ?_)
  · refine r_iconst (pc2 := 23) dX12_wish_22 rfl ?_
    refine r_iretz dX12_wish_23 rfl (by omega) ?_
    exact absurd hk.2 (by omega)
  · refine r_iload3 (pc2 := 18) dX12_wish_17 rfl ?_
    refine r_iconst (pc2 := 19) dX12_wish_18 rfl ?_
    refine r_icle (tgt := 24) (pc2 := 22) dX12_wish_19 rfl (by decide) ⟨by omega, by omega⟩ ⟨by omega, by omega⟩ (fun b_19 => ?_) (fun b_19 => ?_)
    · refine r_bipush (pc2 := 26) dX12_wish_24 rfl (by decide) (by decide) ?_
      refine r_iload2 (pc2 := 27) dX12_wish_26 rfl ?_
      refine r_imul (c := (13 * y)) (pc2 := 28) dX12_wish_27 rfl rfl ?_
      refine r_iload1 (pc2 := 29) dX12_wish_28 rfl ?_
      refine r_iadd (c := ((q : Nat) : Int)) (pc2 := 30) dX12_wish_29 rfl (by omega) ?_
      refine r_istore4 (pc2 := 32) dX12_wish_30 rfl rfl ?_
      refine r_aload0 (pc2 := 33) dX12_wish_32 rfl ?_
      refine r_iload4 (pc2 := 35) dX12_wish_33 rfl ?_
      refine r_cv1 (pc2 := 38) dX12_wish_35 rfl vX12_382 (hK_317 hS) (by decide) (c_X12_findWish (d := d) (M := pI M 317 0 0) (n := n + 1) (q := q) (z := ((k : Nat) : Int)) hS hn0 hn2 hf hq (Or.inr ⟨k, rfl, hkn, by rw [pI_ne (by decide)]; exact ek⟩) hu) ?_
      rintro _ M9 ⟨rfl, h9⟩
      rw [h9]
      show Go (Ct (d + 1)) _ yX12_wish cX12_wish (some .boolean) 0 0 38 [some (.ref 317), some (.int (iI x)), some (.int (iI y)), some (.int (iI w)), some (.int (iI ((q : Nat) : Int))), none, none] [.int (iI ((k : Nat) : Int))] (pI M 317 0 0)
      refine r_istore5 (pc2 := 40) dX12_wish_38 rfl rfl ?_
      refine r_iload3 (pc2 := 41) dX12_wish_40 rfl ?_
      refine r_iconst (pc2 := 42) dX12_wish_41 rfl ?_
      refine r_icne (tgt := 122) (pc2 := 45) dX12_wish_42 rfl (by decide) ⟨by omega, by omega⟩ ⟨by omega, by omega⟩ (fun b_42 => ?_) (fun b_42 => ?_)
      · refine r_aload0 (pc2 := 123) dX12_wish_122 rfl ?_
        refine r_iload4 (pc2 := 125) dX12_wish_123 rfl ?_
        refine r_cv1 (pc2 := 128) dX12_wish_125 rfl vX12_385 (hK_317 hS) (by decide) (c_X12_showsSides (d := d) (M := pI M 317 0 0) (q := q) (z := pc q) hS hq (by rw [pI_ne (by decide)]; exact (hz q hq).1) (hz q hq).2) ?_
        by_cases ht : pc q = 4 ∨ pc q = 9
        · rintro _ M9 ⟨rfl, h9⟩
          rw [h9, show (if pc q = 4 ∨ pc q = 9 then (1 : Int) else 0) = 1 from if_pos ht]
          show Go (Ct (d + 1)) _ yX12_wish cX12_wish (some .boolean) 0 0 128 [some (.ref 317), some (.int (iI x)), some (.int (iI y)), some (.int (iI w)), some (.int (iI ((q : Nat) : Int))), some (.int (iI ((k : Nat) : Int))), none] [.int (iI 1)] (pI M 317 0 0)
          refine r_ifeq (tgt := 145) (pc2 := 131) dX12_wish_128 rfl (by decide) ⟨by omega, by omega⟩ (fun h9 => absurd h9 (by decide)) (fun _ => ?_)
          refine r_iload5 (pc2 := 133) dX12_wish_131 rfl ?_
          refine r_ifge (tgt := 147) (pc2 := 136) dX12_wish_133 rfl (by decide) ⟨by omega, by omega⟩ (fun b_133 => ?_) (fun b_133 => ?_)
          · refine r_iload5 (pc2 := 149) dX12_wish_147 rfl ?_
            refine r_ifge (tgt := 159) (pc2 := 152) dX12_wish_149 rfl (by decide) ⟨by omega, by omega⟩ (fun b_149 => ?_) (fun b_149 => ?_)
            · refine r_iload5 (pc2 := 161) dX12_wish_159 rfl ?_
              refine r_istore6 (pc2 := 163) dX12_wish_161 rfl rfl ?_
              refine r_aload0 (pc2 := 164) dX12_wish_163 rfl ?_
              refine r_getR (pc2 := 167) dX12_wish_164 rfl fX12_138 (hK_317 hS) (hR_317_46 hS) ?_
              refine r_iload6 (pc2 := 169) dX12_wish_167 rfl ?_
              refine r_iload4 (pc2 := 171) dX12_wish_169 rfl ?_
              refine r_iast (z := ((q : Nat) : Int)) (pc2 := 172) dX12_wish_171 rfl (hK_345 hS) (by decide) k rfl (by omega) ?_
              refine r_aload0 (pc2 := 173) dX12_wish_172 rfl ?_
              refine r_getR (pc2 := 176) dX12_wish_173 rfl fX12_141 (hK_317 hS) (hR_317_47 hS) ?_
              refine r_iload6 (pc2 := 178) dX12_wish_176 rfl ?_
              refine r_iload3 (pc2 := 179) dX12_wish_178 rfl ?_
              refine r_iast (z := w) (pc2 := 180) dX12_wish_179 rfl (hK_346 hS) (by decide) k rfl (by omega) ?_
              refine r_aload0 (pc2 := 181) dX12_wish_180 rfl ?_
              refine r_dup (pc2 := 182) dX12_wish_181 rfl rfl ?_
              refine r_getI (z := ((n + 1 : Nat) : Int)) (pc2 := 185) dX12_wish_182 rfl (Or.inl fX12_376) (hK_317 hS) h45 ?_
              refine r_iload5 (pc2 := 187) dX12_wish_185 rfl ?_
              refine r_ifge (tgt := 194) (pc2 := 190) dX12_wish_187 rfl (by decide) ⟨by omega, by omega⟩ (fun b_187 => ?_) (fun b_187 => ?_)
              · refine r_iconst (pc2 := 195) dX12_wish_194 rfl ?_
                refine r_iadd (c := ((n + 1 : Nat) : Int)) (pc2 := 196) dX12_wish_195 rfl (by omega) ?_
                refine r_putI (z := ((n + 1 : Nat) : Int)) (pc2 := 199) dX12_wish_196 rfl fX12_376 (w12_45 _) (hK_317 hS) (by decide) ?_
                refine r_iconst (pc2 := 200) dX12_wish_199 rfl ?_
                refine r_iretz dX12_wish_200 rfl (by omega) ?_
                rw [wsF, if_neg (by omega), if_pos ht, if_neg (by omega)]
                refine ⟨rfl, ⟨pI_at, ?_⟩, frKw.n ((fr.rf.I (by decide)).I (by decide))⟩
                refine hw.2.pt hkn ek (by omega) (fun j hj => ?_)
                rw [m4_7, m4_8]
                by_cases u : j = k
                · rw [if_pos u, u, up_at, up_at]; exact ⟨ek.symm, rfl⟩
                · rw [if_neg u, up_ne u, up_ne u]; exact ⟨rfl, rfl⟩
              · refine r_iconst (pc2 := 191) dX12_wish_190 rfl ?_
                refine r_goto (tgt := 195) dX12_wish_191 (by decide) ?_
                refine r_iadd (c := (((n + 1 : Nat) : Int) + 1)) (pc2 := 196) dX12_wish_195 rfl rfl ?_
                refine r_putI (z := (((n + 1 : Nat) : Int) + 1)) (pc2 := 199) dX12_wish_196 rfl fX12_376 (w12_45 _) (hK_317 hS) (by decide) ?_
                refine r_iconst (pc2 := 200) dX12_wish_199 rfl ?_
                refine r_iretz dX12_wish_200 rfl (by omega) ?_
                exact absurd b_187 (by omega)
            · refine r_aload0 (pc2 := 153) dX12_wish_152 rfl ?_
              refine r_getI (z := ((n + 1 : Nat) : Int)) (pc2 := 156) dX12_wish_153 rfl (Or.inl fX12_376) (hK_317 hS) h45 ?_
              refine r_goto (tgt := 161) dX12_wish_156 (by decide) ?_
              refine r_istore6 (pc2 := 163) dX12_wish_161 rfl rfl ?_
              refine r_aload0 (pc2 := 164) dX12_wish_163 rfl ?_
              refine r_getR (pc2 := 167) dX12_wish_164 rfl fX12_138 (hK_317 hS) (hR_317_46 hS) ?_
              refine r_iload6 (pc2 := 169) dX12_wish_167 rfl ?_
              refine r_iload4 (pc2 := 171) dX12_wish_169 rfl ?_
              refine r_iast (z := ((q : Nat) : Int)) (pc2 := 172) dX12_wish_171 rfl (hK_345 hS) (by decide) (n + 1) rfl (by omega) ?_
              refine r_aload0 (pc2 := 173) dX12_wish_172 rfl ?_
              refine r_getR (pc2 := 176) dX12_wish_173 rfl fX12_141 (hK_317 hS) (hR_317_47 hS) ?_
              refine r_iload6 (pc2 := 178) dX12_wish_176 rfl ?_
              refine r_iload3 (pc2 := 179) dX12_wish_178 rfl ?_
              refine r_iast (z := w) (pc2 := 180) dX12_wish_179 rfl (hK_346 hS) (by decide) (n + 1) rfl (by omega) ?_
              refine r_aload0 (pc2 := 181) dX12_wish_180 rfl ?_
              refine r_dup (pc2 := 182) dX12_wish_181 rfl rfl ?_
              refine r_getI (z := ((n + 1 : Nat) : Int)) (pc2 := 185) dX12_wish_182 rfl (Or.inl fX12_376) (hK_317 hS) h45 ?_
              refine r_iload5 (pc2 := 187) dX12_wish_185 rfl ?_
              refine r_ifge (tgt := 194) (pc2 := 190) dX12_wish_187 rfl (by decide) ⟨by omega, by omega⟩ (fun b_187 => ?_) (fun b_187 => ?_)
              · refine r_iconst (pc2 := 195) dX12_wish_194 rfl ?_
                refine r_iadd (c := ((n + 1 : Nat) : Int)) (pc2 := 196) dX12_wish_195 rfl (by omega) ?_
                refine r_putI (z := ((n + 1 : Nat) : Int)) (pc2 := 199) dX12_wish_196 rfl fX12_376 (w12_45 _) (hK_317 hS) (by decide) ?_
                refine r_iconst (pc2 := 200) dX12_wish_199 rfl ?_
                refine r_iretz dX12_wish_200 rfl (by omega) ?_
                exact absurd b_149 (by omega)
              · refine r_iconst (pc2 := 191) dX12_wish_190 rfl ?_
                refine r_goto (tgt := 195) dX12_wish_191 (by decide) ?_
                refine r_iadd (c := (((n + 1 : Nat) : Int) + 1)) (pc2 := 196) dX12_wish_195 rfl rfl ?_
                refine r_putI (z := (((n + 1 : Nat) : Int) + 1)) (pc2 := 199) dX12_wish_196 rfl fX12_376 (w12_45 _) (hK_317 hS) (by decide) ?_
                refine r_iconst (pc2 := 200) dX12_wish_199 rfl ?_
                refine r_iretz dX12_wish_200 rfl (by omega) ?_
                exact absurd b_149 (by omega)
          · refine r_aload0 (pc2 := 137) dX12_wish_136 rfl ?_
            refine r_getI (z := ((n + 1 : Nat) : Int)) (pc2 := 140) dX12_wish_137 rfl (Or.inl fX12_376) (hK_317 hS) h45 ?_
            refine r_bipush (pc2 := 142) dX12_wish_140 rfl (by decide) (by decide) ?_
            refine r_icne (tgt := 147) (pc2 := 145) dX12_wish_142 rfl (by decide) ⟨by omega, by omega⟩ ⟨by omega, by omega⟩ (fun b_142 => ?_) (fun b_142 => ?_)
            · refine r_iload5 (pc2 := 149) dX12_wish_147 rfl ?_
              refine r_ifge (tgt := 159) (pc2 := 152) dX12_wish_149 rfl (by decide) ⟨by omega, by omega⟩ (fun b_149 => ?_) (fun b_149 => ?_)
              · refine r_iload5 (pc2 := 161) dX12_wish_159 rfl ?_
                refine r_istore6 (pc2 := 163) dX12_wish_161 rfl rfl ?_
                refine r_aload0 (pc2 := 164) dX12_wish_163 rfl ?_
                refine r_getR (pc2 := 167) dX12_wish_164 rfl fX12_138 (hK_317 hS) (hR_317_46 hS) ?_
                refine r_iload6 (pc2 := 169) dX12_wish_167 rfl ?_
                refine r_iload4 (pc2 := 171) dX12_wish_169 rfl ?_
                refine r_iast (z := ((q : Nat) : Int)) (pc2 := 172) dX12_wish_171 rfl (hK_345 hS) (by decide) k rfl (by omega) ?_
                refine r_aload0 (pc2 := 173) dX12_wish_172 rfl ?_
                refine r_getR (pc2 := 176) dX12_wish_173 rfl fX12_141 (hK_317 hS) (hR_317_47 hS) ?_
                refine r_iload6 (pc2 := 178) dX12_wish_176 rfl ?_
                refine r_iload3 (pc2 := 179) dX12_wish_178 rfl ?_
                refine r_iast (z := w) (pc2 := 180) dX12_wish_179 rfl (hK_346 hS) (by decide) k rfl (by omega) ?_
                refine r_aload0 (pc2 := 181) dX12_wish_180 rfl ?_
                refine r_dup (pc2 := 182) dX12_wish_181 rfl rfl ?_
                refine r_getI (z := ((n + 1 : Nat) : Int)) (pc2 := 185) dX12_wish_182 rfl (Or.inl fX12_376) (hK_317 hS) h45 ?_
                refine r_iload5 (pc2 := 187) dX12_wish_185 rfl ?_
                refine r_ifge (tgt := 194) (pc2 := 190) dX12_wish_187 rfl (by decide) ⟨by omega, by omega⟩ (fun b_187 => ?_) (fun b_187 => ?_)
                · refine r_iconst (pc2 := 195) dX12_wish_194 rfl ?_
                  refine r_iadd (c := ((n + 1 : Nat) : Int)) (pc2 := 196) dX12_wish_195 rfl (by omega) ?_
                  refine r_putI (z := ((n + 1 : Nat) : Int)) (pc2 := 199) dX12_wish_196 rfl fX12_376 (w12_45 _) (hK_317 hS) (by decide) ?_
                  refine r_iconst (pc2 := 200) dX12_wish_199 rfl ?_
                  refine r_iretz dX12_wish_200 rfl (by omega) ?_
                  exact absurd b_133 (by omega)
                · refine r_iconst (pc2 := 191) dX12_wish_190 rfl ?_
                  refine r_goto (tgt := 195) dX12_wish_191 (by decide) ?_
                  refine r_iadd (c := (((n + 1 : Nat) : Int) + 1)) (pc2 := 196) dX12_wish_195 rfl rfl ?_
                  refine r_putI (z := (((n + 1 : Nat) : Int) + 1)) (pc2 := 199) dX12_wish_196 rfl fX12_376 (w12_45 _) (hK_317 hS) (by decide) ?_
                  refine r_iconst (pc2 := 200) dX12_wish_199 rfl ?_
                  refine r_iretz dX12_wish_200 rfl (by omega) ?_
                  exact absurd b_133 (by omega)
              · refine r_aload0 (pc2 := 153) dX12_wish_152 rfl ?_
                refine r_getI (z := ((n + 1 : Nat) : Int)) (pc2 := 156) dX12_wish_153 rfl (Or.inl fX12_376) (hK_317 hS) h45 ?_
                refine r_goto (tgt := 161) dX12_wish_156 (by decide) ?_
                refine r_istore6 (pc2 := 163) dX12_wish_161 rfl rfl ?_
                refine r_aload0 (pc2 := 164) dX12_wish_163 rfl ?_
                refine r_getR (pc2 := 167) dX12_wish_164 rfl fX12_138 (hK_317 hS) (hR_317_46 hS) ?_
                refine r_iload6 (pc2 := 169) dX12_wish_167 rfl ?_
                refine r_iload4 (pc2 := 171) dX12_wish_169 rfl ?_
                refine r_iast (z := ((q : Nat) : Int)) (pc2 := 172) dX12_wish_171 rfl (hK_345 hS) (by decide) (n + 1) rfl (by omega) ?_
                refine r_aload0 (pc2 := 173) dX12_wish_172 rfl ?_
                refine r_getR (pc2 := 176) dX12_wish_173 rfl fX12_141 (hK_317 hS) (hR_317_47 hS) ?_
                refine r_iload6 (pc2 := 178) dX12_wish_176 rfl ?_
                refine r_iload3 (pc2 := 179) dX12_wish_178 rfl ?_
                refine r_iast (z := w) (pc2 := 180) dX12_wish_179 rfl (hK_346 hS) (by decide) (n + 1) rfl (by omega) ?_
                refine r_aload0 (pc2 := 181) dX12_wish_180 rfl ?_
                refine r_dup (pc2 := 182) dX12_wish_181 rfl rfl ?_
                refine r_getI (z := ((n + 1 : Nat) : Int)) (pc2 := 185) dX12_wish_182 rfl (Or.inl fX12_376) (hK_317 hS) h45 ?_
                refine r_iload5 (pc2 := 187) dX12_wish_185 rfl ?_
                refine r_ifge (tgt := 194) (pc2 := 190) dX12_wish_187 rfl (by decide) ⟨by omega, by omega⟩ (fun b_187 => ?_) (fun b_187 => ?_)
                · refine r_iconst (pc2 := 195) dX12_wish_194 rfl ?_
                  refine r_iadd (c := ((n + 1 : Nat) : Int)) (pc2 := 196) dX12_wish_195 rfl (by omega) ?_
                  refine r_putI (z := ((n + 1 : Nat) : Int)) (pc2 := 199) dX12_wish_196 rfl fX12_376 (w12_45 _) (hK_317 hS) (by decide) ?_
                  refine r_iconst (pc2 := 200) dX12_wish_199 rfl ?_
                  refine r_iretz dX12_wish_200 rfl (by omega) ?_
                  exact absurd b_133 (by omega)
                · refine r_iconst (pc2 := 191) dX12_wish_190 rfl ?_
                  refine r_goto (tgt := 195) dX12_wish_191 (by decide) ?_
                  refine r_iadd (c := (((n + 1 : Nat) : Int) + 1)) (pc2 := 196) dX12_wish_195 rfl rfl ?_
                  refine r_putI (z := (((n + 1 : Nat) : Int) + 1)) (pc2 := 199) dX12_wish_196 rfl fX12_376 (w12_45 _) (hK_317 hS) (by decide) ?_
                  refine r_iconst (pc2 := 200) dX12_wish_199 rfl ?_
                  refine r_iretz dX12_wish_200 rfl (by omega) ?_
                  exact absurd b_133 (by omega)
            · refine r_iconst (pc2 := 146) dX12_wish_145 rfl ?_
              refine r_iretz dX12_wish_146 rfl (by omega) ?_
              exact absurd b_133 (by omega)
        · rintro _ M9 ⟨rfl, h9⟩
          rw [h9, show (if pc q = 4 ∨ pc q = 9 then (1 : Int) else 0) = 0 from if_neg ht]
          show Go (Ct (d + 1)) _ yX12_wish cX12_wish (some .boolean) 0 0 128 [some (.ref 317), some (.int (iI x)), some (.int (iI y)), some (.int (iI w)), some (.int (iI ((q : Nat) : Int))), some (.int (iI ((k : Nat) : Int))), none] [.int (iI 0)] (pI M 317 0 0)
          refine r_ifeq (tgt := 145) (pc2 := 131) dX12_wish_128 rfl (by decide) ⟨by omega, by omega⟩ (fun _ => ?_) (fun h9 => absurd h9 (by decide))
          refine r_iconst (pc2 := 146) dX12_wish_145 rfl ?_
          refine r_iretz dX12_wish_146 rfl (by omega) ?_
          rw [wsF, if_neg (by omega), if_neg ht]
          exact ⟨rfl, hw.z, frKw.z⟩
      · refine r_iload5 (pc2 := 47) dX12_wish_45 rfl ?_
        refine r_ifge (tgt := 57) (pc2 := 50) dX12_wish_47 rfl (by decide) ⟨by omega, by omega⟩ (fun b_47 => ?_) (fun b_47 => ?_)
        · refine r_iload5 (pc2 := 59) dX12_wish_57 rfl ?_
          refine r_istore6 (pc2 := 61) dX12_wish_59 rfl rfl ?_
          rw [show w = 2 by omega, wsF, if_pos rfl, if_neg (by omega)]
          refine lp_X12_wish (d := d) (pI M 317 0 0) hS hn0 (by omega) (fun M2 f2 h2 => ?_) (n - k) k _ (by omega) (Nat.le_refl k) fr.rf (fun t ht => by rw [if_neg (by omega)]; exact ⟨rfl, rfl⟩)
          refine ⟨rfl, ⟨pI_at, ?_⟩, frKw.n f2⟩
          rw [pI_ne (by decide), pI_ne (by decide)]
          show WL n _ _ (va_up W q (-1))
          refine hw.2.del (fun t => if t < k then t else t + 1) hkn ek (fun j hj => ?_) (fun j i hj hi e => ?_) (fun i hi hi2 => ?_)
          · have h9 := h2 j hj
            rw [pI_ne (by decide), pI_ne (by decide)] at h9
            refine ⟨h9.1, h9.2, ?_, ?_⟩
            · split <;> omega
            · split <;> omega
          · revert e; split <;> split <;> omega
          · by_cases u : i < k
            · exact ⟨i, by omega, if_pos u⟩
            · exact ⟨i - 1, by omega, by rw [if_neg (by omega)]; omega⟩
        · refine r_aload0 (pc2 := 51) dX12_wish_50 rfl ?_
          refine r_iload4 (pc2 := 53) dX12_wish_51 rfl ?_
          refine r_cv1 (pc2 := 56) dX12_wish_53 rfl vX12_385 (hK_317 hS) (by decide) (c_X12_showsSides (d := d) (M := pI M 317 0 0) (q := q) (z := pc q) hS hq (by rw [pI_ne (by decide)]; exact (hz q hq).1) (hz q hq).2) ?_
          by_cases ht : pc q = 4 ∨ pc q = 9
          · rintro _ M9 ⟨rfl, h9⟩
            rw [h9, show (if pc q = 4 ∨ pc q = 9 then (1 : Int) else 0) = 1 from if_pos ht]
            show Go (Ct (d + 1)) _ yX12_wish cX12_wish (some .boolean) 0 0 56 [some (.ref 317), some (.int (iI x)), some (.int (iI y)), some (.int (iI w)), some (.int (iI ((q : Nat) : Int))), some (.int (iI ((k : Nat) : Int))), none] [.int (iI 1)] (pI M 317 0 0)
            refine r_iretz dX12_wish_56 rfl (by omega) ?_
            exact absurd b_47 (by omega)
          · rintro _ M9 ⟨rfl, h9⟩
            rw [h9, show (if pc q = 4 ∨ pc q = 9 then (1 : Int) else 0) = 0 from if_neg ht]
            show Go (Ct (d + 1)) _ yX12_wish cX12_wish (some .boolean) 0 0 56 [some (.ref 317), some (.int (iI x)), some (.int (iI y)), some (.int (iI w)), some (.int (iI ((q : Nat) : Int))), some (.int (iI ((k : Nat) : Int))), none] [.int (iI 0)] (pI M 317 0 0)
            refine r_iretz dX12_wish_56 rfl (by omega) ?_
            exact absurd b_47 (by omega)
    · refine r_iconst (pc2 := 23) dX12_wish_22 rfl ?_
      refine r_iretz dX12_wish_23 rfl (by omega) ?_
      exact absurd hk.2 (by omega)
theorem c_X12_wish {d : Nat} {M : pM} {x y w : Int} {n : Nat} {pc W : Nat → Int} (hS : sOk M.1) (hw : MWs M n W) (hxr : inR x) (hyr : inR y) (hwr : inR w) (hz : ∀ q, q < 156 → M.2.1 328 q = pc q ∧ 0 ≤ pc q ∧ pc q ≤ 9) : Ct (d + 2) 0 0 yX12_wish [.ref 317, .int (iI x), .int (iI y), .int (iI w)] M (fun v M2 => (¬ wsK x y w ∧ v = some (.int (iI 0)) ∧ M2 = pI M 317 0 0) ∨ (wsK x y w ∧ WMq (wsF (pc (13 * y + x).toNat) n W (13 * y + x).toNat w) M v M2)) := by
  by_cases hk : wsK x y w
  · obtain ⟨q, eq⟩ : ∃ q, q = (13 * y + x).toNat := ⟨_, rfl⟩
    have hq : q < 156 := by omega
    rw [← eq]
    rcases hw.2.at_ hq with ⟨w0, hno⟩ | ⟨i, hi, ei, w0, hun⟩
    · exact Ct_mono (fun v M2 h => Or.inr ⟨hk, h⟩) (c_X12_wishA hS hw hxr hyr hwr hz hk eq hq w0 hno)
    · obtain ⟨m, rfl⟩ : ∃ m, n = m + 1 := ⟨n - 1, by omega⟩
      exact Ct_mono (fun v M2 h => Or.inr ⟨hk, h⟩) (c_X12_wishB hS hw hxr hyr hwr hz hk eq hq w0 hi ei)
  · exact Ct_mono (fun v M2 h => Or.inl ⟨hk, h⟩) (c_X12_wishN hS hw hxr hyr hwr hz hk)
