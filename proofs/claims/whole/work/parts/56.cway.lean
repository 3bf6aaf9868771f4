/-! the class's Wishes.search (266: places 267, wanted 268, path 269, size field 3) -/
def KW (D : bD) (ix : Nat → Nat) (k : Nat → Int) (v w : Int64) : Prop := BE D.1.1 ix v k ∧ w = 0 ∧ bK D k
theorem KW.key {D : bD} {ix : Nat → Nat} {k k2 : Nat → Int} {v w v2 w2 : Int64} (hx : Ixw D.1.1 ix) (h : KW D ix k v w) (h2 : KW D ix k2 v2 w2) : (v = v2 ∧ w = w2) ↔ k = k2 := by
  obtain ⟨a1, rfl, a3⟩ := h
  obtain ⟨b1, rfl, b3⟩ := h2
  constructor
  · rintro ⟨rfl, -⟩
    exact BE.inj hx a3 b3 a1 b1
  · rintro rfl
    exact ⟨a1.uniq b1, rfl⟩
theorem isB_out1 : ∀ k, 1 ≤ k → k ≤ 9 → 19 + k ∉ [19] ++ [256, 257, 258, 259, 260, 261, 262] := by
  intro k h1 h2
  simp only [List.cons_append, List.nil_append, List.mem_cons, List.not_mem_nil, or_false]
  omega
/-- a way back asks for no parent behind where it begins -/
theorem trc_up {P H : Nat → Int} {n : Nat} {z w : Int} : ∀ {f : Nat} {i : Nat}, i < n → (∀ j, 0 < j → j < n → P j < (j : Int)) → trc (va_up P n z) (va_up H n w) f (i : Int) = trc P H f (i : Int) := by
  intro f
  induction f with
  | zero => intro i _ _; rfl
  | succ f ih =>
    intro i hi hP
    by_cases h0 : i = 0
    · subst h0; rw [trc_0 (by omega), trc_0 (by omega)]
    · rw [trc_s (by omega), trc_s (by omega), Int.toNat_natCast, up_ne (by omega), up_ne (by omega)]
      have h1 := hP i (by omega) hi
      by_cases h2 : P i ≤ 0
      · rw [trc_0 h2, trc_0 h2]
      · have := ih (i := (P i).toNat) (by omega) hP
        rw [show (((P i).toNat : Nat) : Int) = P i by omega] at this
        rw [this]
set_option maxHeartbeats 4000000 in
theorem c_X0_isTurning {d : Nat} {M : pM} {b q : Nat} {z : Int} (hS : sOk M.1) (hb_b : isB b) (hq : q < 156) (hz : M.2.1 (b + 1) q = z) (hr : 0 ≤ z ∧ z ≤ 9) : Ct (d + 1) 0 0 yX0_isTurning [.ref (b), .int (iI ((q : Nat) : Int))] M (fun v M2 => v = some (.int (iI (if z = 4 ∨ z = 9 then 1 else 0))) ∧ M2 = M) := by
  refine ct_in (d := d) kX0_isTurning rfl (by decide) (Nat.le_of_ble_eq_true rfl) (by decide) ?_
  show Go (Ct d) _ yX0_isTurning cX0_isTurning (some .boolean) 0 0 0 [some (.ref (b)), some (.int (iI ((q : Nat) : Int)))] [] M
  refine r_aload0 (pc2 := 1) dX0_isTurning_0 rfl ?_
  refine r_getR (pc2 := 4) dX0_isTurning_1 rfl fX0_9 (hKb hS hb_b) (hRb0 hS hb_b) ?_
  refine r_iload1 (pc2 := 5) dX0_isTurning_4 rfl ?_
  refine r_iald (z := z) (pc2 := 6) dX0_isTurning_5 rfl (hKb1 hS hb_b) q rfl (by omega) hz ?_
  refine r_iconst (pc2 := 7) dX0_isTurning_6 rfl ?_
  refine r_iceq (tgt := 21) (pc2 := 10) dX0_isTurning_7 rfl (by decide) ⟨by omega, by omega⟩ ⟨by omega, by omega⟩ (fun b_7 => ?_) (fun b_7 => ?_)
  · refine r_iconst (pc2 := 22) dX0_isTurning_21 rfl ?_
    refine r_goto (tgt := 26) dX0_isTurning_22 (by decide) ?_
    refine r_iretz dX0_isTurning_26 rfl (by omega) ?_
    exact ⟨by first | rw [if_pos (by omega)] | rw [if_neg (by omega)], rfl⟩
  · refine r_aload0 (pc2 := 11) dX0_isTurning_10 rfl ?_
    refine r_getR (pc2 := 14) dX0_isTurning_11 rfl fX0_9 (hKb hS hb_b) (hRb0 hS hb_b) ?_
    refine r_iload1 (pc2 := 15) dX0_isTurning_14 rfl ?_
    refine r_iald (z := z) (pc2 := 16) dX0_isTurning_15 rfl (hKb1 hS hb_b) q rfl (by omega) hz ?_
    refine r_bipush (pc2 := 18) dX0_isTurning_16 rfl (by decide) (by decide) ?_
    refine r_icne (tgt := 25) (pc2 := 21) dX0_isTurning_18 rfl (by decide) ⟨by omega, by omega⟩ ⟨by omega, by omega⟩ (fun b_18 => ?_) (fun b_18 => ?_)
    · refine r_iconst (pc2 := 26) dX0_isTurning_25 rfl ?_
      refine r_iretz dX0_isTurning_26 rfl (by omega) ?_
      exact ⟨by first | rw [if_pos (by omega)] | rw [if_neg (by omega)], rfl⟩
    · refine r_iconst (pc2 := 22) dX0_isTurning_21 rfl ?_
      refine r_goto (tgt := 26) dX0_isTurning_22 (by decide) ?_
      refine r_iretz dX0_isTurning_26 rfl (by omega) ?_
      exact ⟨by first | rw [if_pos (by omega)] | rw [if_neg (by omega)], rfl⟩
set_option maxHeartbeats 8000000 in
theorem lp1_X10_search {d : Nat} {Q : pQ} {D : bD} {ix : Nat → Nat} {W : Nat → Int} {n : Nat} {M : pM} {l8 : Option Value} (hS : sOk M.1) (hB : CS M 19 D ix) (hpc : ∀ p, p < 156 → 0 ≤ D.1.1 p ∧ D.1.1 p ≤ 9) (hn : M.2.1 266 3 = (n : Int)) (hW : WL n (M.2.1 267) (M.2.1 268) W)
    (hQ1 : ¬ wOk W D.1.1 → Q (some (.int (iI (-1)))) M)
    (hQ2 : ∀ ma go, wOk W D.1.1 → mkB ix (M.2.1 267) (fun _ => True) n ma → mkB ix (M.2.1 267) (fun k => M.2.1 268 k = 1) n go → Go (Ct (d + 3)) Q yX10_search cX10_search (some .int) 0 0 82 [some (.ref 266), some (.ref 19), some (.ref 256), some (.long ma), none, some (.long go), none, some (.int (iI ((n : Nat) : Int))), l8] [] M) :
    ∀ (m i : Nat) (ma go : Int64), i + m = n → (∀ k, k < i → D.1.1 (M.2.1 267 k).toNat = 4 ∨ D.1.1 (M.2.1 267 k).toNat = 9) → mkB ix (M.2.1 267) (fun _ => True) i ma → mkB ix (M.2.1 267) (fun k => M.2.1 268 k = 1) i go →
      Go (Ct (d + 3)) Q yX10_search cX10_search (some .int) 0 0 8 [some (.ref 266), some (.ref 19), some (.ref 256), some (.long ma), none, some (.long go), none, some (.int (iI ((i : Nat) : Int))), l8] [] M := by
  have hn12 := hW.1
  intro m
  induction m with
  | zero =>
    intro i ma go hm hi h1 h2
    obtain rfl : i = n := by omega
    refine r_iload7 (pc2 := 10) dX10_search_8 rfl ?_
    refine r_aload0 (pc2 := 11) dX10_search_10 rfl ?_
    refine r_getI (z := ((i : Nat) : Int)) (pc2 := 14) dX10_search_11 rfl (Or.inl fX10_31) (hK_266 hS) hn ?_
    refine r_icge (tgt := 82) (pc2 := 17) dX10_search_14 rfl (by decide) ⟨by omega, by omega⟩ ⟨by omega, by omega⟩ (fun b_14 => ?_) (fun b_14 => ?_)
    · exact hQ2 ma go (hW.ok.mpr hi) h1 h2
    · exact absurd b_14 (by omega)
  | succ m ih =>
    intro i ma go hm hi h1 h2
    have hw := hW.2.1 i (by omega)
    have hx := hB.1.2.2.2.2.2
    have hxi := hx.1 (M.2.1 267 i).toNat (by omega)
    have hz : M.2.1 20 (M.2.1 267 i).toNat = D.1.1 (M.2.1 267 i).toNat := hB.1.1 _ (by omega)
    have hsf : M.2.1 22 (M.2.1 267 i).toNat = ((4 * ix (M.2.1 267 i).toNat : Nat) : Int) := hB.1.2.2.1 _ (by omega)
    have hpi := hpc (M.2.1 267 i).toNat (by omega)
    have hcast : (((M.2.1 267 i).toNat : Nat) : Int) = M.2.1 267 i := by omega
    refine r_iload7 (pc2 := 10) dX10_search_8 rfl ?_
    refine r_aload0 (pc2 := 11) dX10_search_10 rfl ?_
    refine r_getI (z := ((n : Nat) : Int)) (pc2 := 14) dX10_search_11 rfl (Or.inl fX10_31) (hK_266 hS) hn ?_
    refine r_icge (tgt := 82) (pc2 := 17) dX10_search_14 rfl (by decide) ⟨by omega, by omega⟩ ⟨by omega, by omega⟩ (fun b_14 => ?_) (fun b_14 => ?_)
    · refine r_aload1 (pc2 := 83) dX10_search_82 rfl ?_
      refine r_getJ (z := (M.2.2 19 11)) (pc2 := 86) dX10_search_83 rfl fX10_55 (hK_19 hS) rfl ?_
      refine r_lload3 (pc2 := 87) dX10_search_86 rfl ?_
      refine r_land (pc2 := 88) dX10_search_87 rfl ?_
      refine r_lload5 (pc2 := 90) dX10_search_88 rfl ?_
      refine r_lcmp (pc2 := 91) dX10_search_90 rfl ?_
      have lr90 := lcm_r (((M.2.2 19 11)) &&& (ma)) (go)
      rw [lg_iI]
      refine r_ifne (tgt := 96) (pc2 := 94) dX10_search_91 rfl (by decide) ⟨by omega, by omega⟩ (fun b_91 => ?_) (fun b_91 => ?_)
      · refine r_aload2 (pc2 := 97) dX10_search_96 rfl ?_
        refine r_sipush (pc2 := 100) dX10_search_97 rfl (by decide) (by decide) ?_
        exact absurd b_14 (by omega)
      · refine r_iconst (pc2 := 95) dX10_search_94 rfl ?_
        refine r_ireti dX10_search_95 rfl ?_
        exact absurd b_14 (by omega)
    · refine r_aload1 (pc2 := 18) dX10_search_17 rfl ?_
      refine r_aload0 (pc2 := 19) dX10_search_18 rfl ?_
      refine r_getR (pc2 := 22) dX10_search_19 rfl fX10_11 (hK_266 hS) (hR_266_0 hS) ?_
      refine r_iload7 (pc2 := 24) dX10_search_22 rfl ?_
      refine r_iald (z := (M.2.1 267 i)) (pc2 := 25) dX10_search_24 rfl (hK_267 hS) i rfl (by omega) rfl ?_
      refine r_cv1 (pc2 := 28) dX10_search_25 rfl vX10_25 (hK_19 hS) (by decide) (by rw [← hcast]; exact c_X0_isTurning (d := d + 2) (b := 19) (q := (M.2.1 267 i).toNat) (z := D.1.1 (M.2.1 267 i).toNat) hS isB_19 (by omega) hz hpi) ?_
      by_cases ht : D.1.1 (M.2.1 267 i).toNat = 4 ∨ D.1.1 (M.2.1 267 i).toNat = 9
      · rintro _ M9 ⟨rfl, h9⟩
        rw [h9, if_pos ht]
        show Go (Ct (d + 3)) _ yX10_search cX10_search (some .int) 0 0 28 [some (.ref 266), some (.ref 19), some (.ref 256), some (.long (ma)), none, some (.long (go)), none, some (.int (iI ((i : Nat) : Int))), l8] [.int (iI 1)] M
        refine r_ifne (tgt := 33) (pc2 := 31) dX10_search_28 rfl (by decide) ⟨by omega, by omega⟩ (fun _ => ?_) (fun h9 => absurd h9 (by decide))
        refine r_lload3 (pc2 := 34) dX10_search_33 rfl ?_
        refine r_lconst (pc2 := 35) dX10_search_34 rfl ?_
        refine r_aload1 (pc2 := 36) dX10_search_35 rfl ?_
        refine r_getR (pc2 := 39) dX10_search_36 rfl fX10_52 (hK_19 hS) (hR_19_2 hS) ?_
        refine r_aload0 (pc2 := 40) dX10_search_39 rfl ?_
        refine r_getR (pc2 := 43) dX10_search_40 rfl fX10_11 (hK_266 hS) (hR_266_0 hS) ?_
        refine r_iload7 (pc2 := 45) dX10_search_43 rfl ?_
        refine r_iald (z := (M.2.1 267 i)) (pc2 := 46) dX10_search_45 rfl (hK_267 hS) i rfl (by omega) rfl ?_
        refine r_iald (z := ((4 * ix (M.2.1 267 i).toNat : Nat) : Int)) (pc2 := 47) dX10_search_46 rfl (hK_22 hS) ((M.2.1 267 i)).toNat (by omega) (by omega) hsf ?_
        refine r_lshl (pc2 := 48) dX10_search_47 rfl ?_
        refine r_lor (pc2 := 49) dX10_search_48 rfl ?_
        refine r_lstore3 (pc2 := 50) dX10_search_49 rfl rfl ?_
        refine r_lload5 (pc2 := 52) dX10_search_50 rfl ?_
        refine r_aload0 (pc2 := 53) dX10_search_52 rfl ?_
        refine r_getR (pc2 := 56) dX10_search_53 rfl fX10_15 (hK_266 hS) (hR_266_1 hS) ?_
        refine r_iload7 (pc2 := 58) dX10_search_56 rfl ?_
        refine r_iald (z := (M.2.1 268 i)) (pc2 := 59) dX10_search_58 rfl (hK_268 hS) i rfl (by omega) rfl ?_
        refine r_i2l (pc2 := 60) dX10_search_59 rfl ⟨by omega, by omega⟩ ?_
        refine r_aload1 (pc2 := 61) dX10_search_60 rfl ?_
        refine r_getR (pc2 := 64) dX10_search_61 rfl fX10_52 (hK_19 hS) (hR_19_2 hS) ?_
        refine r_aload0 (pc2 := 65) dX10_search_64 rfl ?_
        refine r_getR (pc2 := 68) dX10_search_65 rfl fX10_11 (hK_266 hS) (hR_266_0 hS) ?_
        refine r_iload7 (pc2 := 70) dX10_search_68 rfl ?_
        refine r_iald (z := (M.2.1 267 i)) (pc2 := 71) dX10_search_70 rfl (hK_267 hS) i rfl (by omega) rfl ?_
        refine r_iald (z := ((4 * ix (M.2.1 267 i).toNat : Nat) : Int)) (pc2 := 72) dX10_search_71 rfl (hK_22 hS) ((M.2.1 267 i)).toNat (by omega) (by omega) hsf ?_
        refine r_lshl (pc2 := 73) dX10_search_72 rfl ?_
        refine r_lor (pc2 := 74) dX10_search_73 rfl ?_
        refine r_lstore5 (pc2 := 76) dX10_search_74 rfl rfl ?_
        refine r_iinc7 (z := ((i + 1 : Nat) : Int)) (pc2 := 79) dX10_search_76 rfl (by omega) rfl ?_
        refine r_goto (tgt := 8) dX10_search_79 (by decide) ?_
        refine ih (i + 1) _ _ (by omega) (fun k hk => ?_) (mkB_yes h1 trivial hxi) ?_
        · by_cases u : k = i
          · subst u; exact ht
          · exact hi k (by omega)
        · by_cases u : M.2.1 268 i = 1
          · rw [jL_1 u]; exact mkB_yes h2 u hxi
          · rw [jL_0 (show M.2.1 268 i = 0 by omega)]
            exact mkB_no h2 u (fun j hj => by rw [bl_shl 0 (by omega) hj, bl_0, Bool.and_false])
      · rintro _ M9 ⟨rfl, h9⟩
        rw [h9, if_neg ht]
        show Go (Ct (d + 3)) _ yX10_search cX10_search (some .int) 0 0 28 [some (.ref 266), some (.ref 19), some (.ref 256), some (.long (ma)), none, some (.long (go)), none, some (.int (iI ((i : Nat) : Int))), l8] [.int (iI 0)] M
        refine r_ifne (tgt := 33) (pc2 := 31) dX10_search_28 rfl (by decide) ⟨by omega, by omega⟩ (fun h9 => absurd h9 (by decide)) (fun _ => ?_)
        refine r_iconst (pc2 := 32) dX10_search_31 rfl ?_
        refine r_ireti dX10_search_32 rfl ?_
        exact hQ1 (fun q => ht (hW.ok.mp q i (by omega)))
set_option maxHeartbeats 8000000 in
theorem lp_X10_search {d : Nat} {Q : pQ} {D : bD} {ix : Nat → Nat} {W : Nat → Int} {ma go : Int64} {F : Int × (Nat → Int)} (M0 : pM) (hS0 : sOk M0.1) (hB0 : CS M0 19 D ix) (hD : bOk D) (hkey : ∀ v k, BE D.1.1 ix v k → bK D k → ((v &&& ma) = go ↔ wIs W k))
    (hQ : ∀ M M2 n A B, frS [19] M0 M → SN M n A B → fr [269] M M2 → (∀ j : Nat, (j : Int) < F.1 → M2.2.1 269 j = F.2 j) → Q (some (.int (iI F.1))) M2) :
    ∀ (m i h n : Nat) (K : Nat → (Nat → Int)) (P H : Nat → Int) (A B : Nat → Int64) (M : pM), 5 * i + h + m = 15000 → i < n → h ≤ 4 → frS [19] M0 M → SN M n A B → M.2.1 256 7 = 3000 → n ≤ 3000 → (∀ j, j < n → KW D ix (K j) (A j) (B j) ∧ ¬ wIs W (K j)) → PHo n P → (∀ j, j < n → M.2.1 259 j = P j ∧ M.2.1 260 j = H j) → bfs (fun _ _ => False) (wyN D) (wIs W) (-1) m i h n K P H = F →
      Go (Ct (d + 3)) Q yX10_search cX10_search (some .int) 0 0 138 [some (.ref 266), some (.ref 19), some (.ref 256), some (.long ma), none, some (.long go), none, some (.int (iI ((i : Nat) : Int))), some (.int (iI ((h : Nat) : Int)))] [] M := by
  intro m
  induction m with
  | zero => intro i h n K P H A B M hm hin hh hfr hN hlim hn3; omega
  | succ m ih =>
    intro i h n K P H A B M hm hin hh hfr hN hlim hn3 hK hP hPe hF
    have hS := hfr.1.ok hS0
    have hx := hB0.1.2.2.2.2.2
    have hKi := (hK i hin).1
    have hAi := hN.2.2.1 i hin
    have hA1 : M.2.2 257 i = A i := hAi.1
    have hsz : M.2.1 256 6 = (n : Int) := hN.1
    by_cases h4 : h = 4
    · subst h4
      refine r_iload8 (pc2 := 140) dX10_search_138 rfl ?_
      refine r_iconst (pc2 := 141) dX10_search_140 rfl ?_
      refine r_icge (tgt := 209) (pc2 := 144) dX10_search_141 rfl (by decide) ⟨by omega, by omega⟩ ⟨by omega, by omega⟩ (fun _ => ?_) (fun h9 => absurd h9 (by decide))
      refine r_iinc7 (z := ((i + 1 : Nat) : Int)) (pc2 := 212) dX10_search_209 rfl (by omega) rfl ?_
      refine r_goto (tgt := 118) dX10_search_212 (by decide) ?_
      refine r_iload7 (pc2 := 120) dX10_search_118 rfl ?_
      refine r_aload2 (pc2 := 121) dX10_search_120 rfl ?_
      refine r_getI (z := ((n : Nat) : Int)) (pc2 := 124) dX10_search_121 rfl (Or.inl fX10_69) (hK_256 hS) hsz ?_
      refine r_icge (tgt := 215) (pc2 := 127) dX10_search_124 rfl (by decide) ⟨by omega, by omega⟩ ⟨by omega, by omega⟩ (fun b_124 => ?_) (fun b_124 => ?_)
      · refine r_iconst (pc2 := 216) dX10_search_215 rfl ?_
        refine r_ireti dX10_search_216 rfl ?_
        rw [bfs_end rfl (by omega)] at hF
        subst hF
        exact hQ M M n A B hfr hN fr.rf (fun j hj => absurd hj (by show ¬ (j : Int) < -1; omega))
      · refine r_iload7 (pc2 := 129) dX10_search_127 rfl ?_
        refine r_sipush (pc2 := 132) dX10_search_129 rfl (by decide) (by decide) ?_
        refine r_icge (tgt := 215) (pc2 := 135) dX10_search_132 rfl (by decide) ⟨by omega, by omega⟩ ⟨by omega, by omega⟩ (fun b_132 => ?_) (fun b_132 => ?_)
        · refine r_iconst (pc2 := 216) dX10_search_215 rfl ?_
          refine r_ireti dX10_search_216 rfl ?_
          exact absurd hn3 (by omega)
        · refine r_iconst (pc2 := 136) dX10_search_135 rfl ?_
          refine r_istore8 (pc2 := 138) dX10_search_136 rfl rfl ?_
          rw [bfs_row rfl (by omega)] at hF
          exact ih (i + 1) 0 n K P H A B M (by omega) (by omega) (by omega) hfr hN hlim hn3 hK hP hPe hF
    · have hh4 : h < 4 := by omega
      have hd1 := bH_K (st := -2) hD hh4 hKi.2.2
      have hst1 : stk D.1.1 (bT D) ix (-2) 0 := stk0 (fun q _ => (bT_r D q).1)
      have hA2 : ¬ (fun (_ : Nat → Int) (_ : Nat) => False) (K i) h := fun q => q
      refine r_iload8 (pc2 := 140) dX10_search_138 rfl ?_
      refine r_iconst (pc2 := 141) dX10_search_140 rfl ?_
      refine r_icge (tgt := 209) (pc2 := 144) dX10_search_141 rfl (by decide) ⟨by omega, by omega⟩ ⟨by omega, by omega⟩ (fun b_141 => ?_) (fun b_141 => ?_)
      · refine r_iinc7 (z := (((i : Nat) : Int) + 1)) (pc2 := 212) dX10_search_209 rfl rfl rfl ?_
        refine r_goto (tgt := 118) dX10_search_212 (by decide) ?_
        refine r_iload7 (pc2 := 120) dX10_search_118 rfl ?_
        refine r_aload2 (pc2 := 121) dX10_search_120 rfl ?_
        refine r_getI (z := (M.2.1 256 6)) (pc2 := 124) dX10_search_121 rfl (Or.inl fX10_69) (hK_256 hS) rfl ?_
        refine r_icge (tgt := 215) (pc2 := 127) dX10_search_124 rfl (by decide) ⟨by omega, by omega⟩ ⟨by omega, by omega⟩ (fun b_124 => ?_) (fun b_124 => ?_)
        · refine r_iconst (pc2 := 216) dX10_search_215 rfl ?_
          refine r_ireti dX10_search_216 rfl ?_
          exact absurd b_141 (by omega)
        · refine r_iload7 (pc2 := 129) dX10_search_127 rfl ?_
          refine r_sipush (pc2 := 132) dX10_search_129 rfl (by decide) (by decide) ?_
          refine r_icge (tgt := 215) (pc2 := 135) dX10_search_132 rfl (by decide) ⟨by omega, by omega⟩ ⟨by omega, by omega⟩ (fun b_132 => ?_) (fun b_132 => ?_)
          · refine r_iconst (pc2 := 216) dX10_search_215 rfl ?_
            refine r_ireti dX10_search_216 rfl ?_
            exact absurd b_141 (by omega)
          · refine r_iconst (pc2 := 136) dX10_search_135 rfl ?_
            refine r_istore8 (pc2 := 138) dX10_search_136 rfl rfl ?_
            exact absurd b_141 (by omega)
      · refine r_aload1 (pc2 := 145) dX10_search_144 rfl ?_
        refine r_aload2 (pc2 := 146) dX10_search_145 rfl ?_
        refine r_getR (pc2 := 149) dX10_search_146 rfl fX10_70 (hK_256 hS) (hR_256_0 hS) ?_
        refine r_iload7 (pc2 := 151) dX10_search_149 rfl ?_
        refine r_lald (z := (A i)) (pc2 := 152) dX10_search_151 rfl (hK_257 hS) i rfl (by omega) hA1 ?_
        refine r_iload8 (pc2 := 154) dX10_search_152 rfl ?_
        refine r_lconst (pc2 := 155) dX10_search_154 rfl ?_
        refine r_cv3 (pc2 := 158) dX10_search_155 rfl vX10_74 (hK_19 hS) (by decide) (CS_drop (d := d) (hB0.fs hfr isB_out1) hS isB_19 hD hh4 hKi.2.2 hKi.1 hst1) ?_
        rintro _ M8 ⟨rfl, a2, h8, hE8⟩
        have hf8 : frS [19] M0 M8 := hfr.tr (by rw [h8]; exact frS.dr (by simp))
        have hN8 : SN M8 n A B := by rw [h8]; exact hN.bd isB_19
        have e8 : M8.2.1 = M.2.1 := by rw [h8]; rfl
        have ea8 : M8.2.2 19 12 = a2 := by rw [h8]; exact pJ_at
        have hKn : KW D ix (wyN D (K i) h) a2 0 := ⟨hE8, rfl, hd1.1⟩
        have hwk := hkey a2 (wyN D (K i) h) hE8 hd1.1
        show Go (Ct (d + 3)) _ yX10_search cX10_search (some .int) 0 0 158 [some (.ref 266), some (.ref 19), some (.ref 256), some (.long (ma)), none, some (.long (go)), none, some (.int (iI ((i : Nat) : Int))), some (.int (iI ((h : Nat) : Int)))] [.int (iI (bH D (-2) (K i) h).1)] M8
        refine r_pop (pc2 := 159) dX10_search_158 rfl rfl ?_
        refine r_aload2 (pc2 := 160) dX10_search_159 rfl ?_
        refine r_aload1 (pc2 := 161) dX10_search_160 rfl ?_
        refine r_getJ (z := a2) (pc2 := 164) dX10_search_161 rfl fX10_78 (hK_19 (hf8.1.ok hS0)) ea8 ?_
        refine r_lconst (pc2 := 165) dX10_search_164 rfl ?_
        refine r_iload7 (pc2 := 167) dX10_search_165 rfl ?_
        refine r_iload8 (pc2 := 169) dX10_search_167 rfl ?_
        refine r_cv4 (pc2 := 172) dX10_search_169 rfl vX10_65 (hK_256 (hf8.1.ok hS0)) (by decide) (c_X6_note (d := d) (n := n) (A := A) (B := B) (hf8.1.ok hS0) hN8 (by rw [e8]; omega)) ?_
        have hex : (∃ j, j < n ∧ A j = a2 ∧ B j = 0) ↔ ∃ j, j < n ∧ K j = wyN D (K i) h := ⟨fun ⟨j, j1, j2⟩ => ⟨j, j1, ((hK j j1).1.key hx hKn).mp j2⟩, fun ⟨j, j1, j2⟩ => ⟨j, j1, ((hK j j1).1.key hx hKn).mpr j2⟩⟩
        rintro _ M9 (⟨j, j1, j2, j3, rfl, h9⟩ | ⟨hno, hfull, rfl, h9⟩ | ⟨hno, hroom, rfl, hN9, hf9, e259, e260, hl9, -⟩)
        · have hyes := hex.mp ⟨j, j1, j2, j3⟩
          clear hex
          have hf9 : frS [19] M0 M9 := hf8.tr (frS.sn (by decide) (by rw [h9]; exact fr.I fr.rf (by decide)))
          have hN9 : SN M9 n A B := hN8.dr (fun q hq hb => by rw [h9]; exact ⟨fun _ => pI_nk (by decide), fun u => pI_ne u, rfl⟩)
          have ea9 : M9.2.2 19 12 = a2 := by rw [h9]; exact ea8
          show Go (Ct (d + 3)) _ yX10_search cX10_search (some .int) 0 0 172 [some (.ref 266), some (.ref 19), some (.ref 256), some (.long (ma)), none, some (.long (go)), none, some (.int (iI ((i : Nat) : Int))), some (.int (iI ((h : Nat) : Int)))] [.int (iI ((j : Nat) : Int))] M9
          refine r_iconst (pc2 := 173) dX10_search_172 rfl ?_
          refine r_icne (tgt := 178) (pc2 := 176) dX10_search_173 rfl (by decide) ⟨by omega, by omega⟩ ⟨by omega, by omega⟩ (fun b_173 => ?_) (fun b_173 => ?_)
          · refine r_aload1 (pc2 := 179) dX10_search_178 rfl ?_
            refine r_getJ (z := a2) (pc2 := 182) dX10_search_179 rfl fX10_78 (hK_19 (hf9.1.ok hS0)) ea9 ?_
            refine r_lload3 (pc2 := 183) dX10_search_182 rfl ?_
            refine r_land (pc2 := 184) dX10_search_183 rfl ?_
            refine r_lload5 (pc2 := 186) dX10_search_184 rfl ?_
            refine r_lcmp (pc2 := 187) dX10_search_186 rfl ?_
            have lr186 := lcm_r ((a2) &&& (ma)) (go)
            rw [lg_iI]
            refine r_ifne (tgt := 203) (pc2 := 190) dX10_search_187 rfl (by decide) ⟨by omega, by omega⟩ (fun b_187 => ?_) (fun b_187 => ?_)
            · refine r_iinc8 (z := ((h + 1 : Nat) : Int)) (pc2 := 206) dX10_search_203 rfl (by omega) rfl ?_
              refine r_goto (tgt := 138) dX10_search_206 (by decide) ?_
              rw [bfs_old h4 hA2 hyes] at hF
              exact ih i (h + 1) n K P H A B M9 (by omega) hin (by omega) hf9 hN9 (by rw [h9, pI_nk (by decide), e8]; exact hlim) hn3 hK hP (fun j hj => by rw [h9, pI_ne (by decide), pI_ne (by decide), e8]; exact hPe j hj) hF
            · have q9 : wIs W (wyN D (K i) h) := hwk.mp (lr186.2.2.mp (by omega))
              obtain ⟨j5, j6, j7⟩ := hyes
              rw [← j7] at q9
              exact absurd q9 (hK j5 j6).2
          · refine r_iconst (pc2 := 177) dX10_search_176 rfl ?_
            refine r_ireti dX10_search_177 rfl ?_
            exact absurd b_173 (by omega)
        · have hno2 := fun q => hno (hex.mpr q)
          clear hno hex
          have hf9 : frS [19] M0 M9 := hf8.tr (frS.sn (by decide) (by rw [h9]; exact fr.I fr.rf (by decide)))
          have hN9 : SN M9 n A B := hN8.dr (fun q hq hb => by rw [h9]; exact ⟨fun _ => pI_nk (by decide), fun u => pI_ne u, rfl⟩)
          have ea9 : M9.2.2 19 12 = a2 := by rw [h9]; exact ea8
          show Go (Ct (d + 3)) _ yX10_search cX10_search (some .int) 0 0 172 [some (.ref 266), some (.ref 19), some (.ref 256), some (.long (ma)), none, some (.long (go)), none, some (.int (iI ((i : Nat) : Int))), some (.int (iI ((h : Nat) : Int)))] [.int (iI (-1))] M9
          refine r_iconst (pc2 := 173) dX10_search_172 rfl ?_
          refine r_icne (tgt := 178) (pc2 := 176) dX10_search_173 rfl (by decide) ⟨by omega, by omega⟩ ⟨by omega, by omega⟩ (fun h9 => absurd h9 (by decide)) (fun _ => ?_)
          refine r_iconst (pc2 := 177) dX10_search_176 rfl ?_
          refine r_ireti dX10_search_177 rfl ?_
          rw [bfs_full h4 hA2 hno2 (by rw [e8] at hfull; omega)] at hF
          subst hF
          exact hQ M9 M9 n A B hf9 hN9 fr.rf (fun j hj => absurd hj (by show ¬ (j : Int) < -1; omega))
        · have hno2 := fun q => hno (hex.mpr q)
          clear hno hex
          have ea9 : M9.2.2 19 12 = a2 := by rw [hf9.j (by decide)]; exact ea8
          have hf9 : frS [19] M0 M9 := hf8.tr (frS.sn (by decide) hf9)
          show Go (Ct (d + 3)) _ yX10_search cX10_search (some .int) 0 0 172 [some (.ref 266), some (.ref 19), some (.ref 256), some (.long (ma)), none, some (.long (go)), none, some (.int (iI ((i : Nat) : Int))), some (.int (iI ((h : Nat) : Int)))] [.int (iI ((n : Nat) : Int))] M9
          refine r_iconst (pc2 := 173) dX10_search_172 rfl ?_
          refine r_icne (tgt := 178) (pc2 := 176) dX10_search_173 rfl (by decide) ⟨by omega, by omega⟩ ⟨by omega, by omega⟩ (fun b_173 => ?_) (fun b_173 => ?_)
          · refine r_aload1 (pc2 := 179) dX10_search_178 rfl ?_
            refine r_getJ (z := a2) (pc2 := 182) dX10_search_179 rfl fX10_78 (hK_19 (hf9.1.ok hS0)) ea9 ?_
            refine r_lload3 (pc2 := 183) dX10_search_182 rfl ?_
            refine r_land (pc2 := 184) dX10_search_183 rfl ?_
            refine r_lload5 (pc2 := 186) dX10_search_184 rfl ?_
            refine r_lcmp (pc2 := 187) dX10_search_186 rfl ?_
            have lr186 := lcm_r ((a2) &&& (ma)) (go)
            rw [lg_iI]
            refine r_ifne (tgt := 203) (pc2 := 190) dX10_search_187 rfl (by decide) ⟨by omega, by omega⟩ (fun b_187 => ?_) (fun b_187 => ?_)
            · refine r_iinc8 (z := ((h + 1 : Nat) : Int)) (pc2 := 206) dX10_search_203 rfl (by omega) rfl ?_
              refine r_goto (tgt := 138) dX10_search_206 (by decide) ?_
              have hn9 : n < 3000 := by rw [e8] at hroom; omega
              have hP9e : ∀ j, j < n + 1 → M9.2.1 259 j = va_up P n (i : Int) j ∧ M9.2.1 260 j = va_up H n (h : Int) j := fun j hj => by
                rw [e259, e260, e8]
                by_cases u : j = n
                · subst u; rw [up_at, up_at, up_at, up_at]; exact ⟨rfl, rfl⟩
                · rw [up_ne u, up_ne u, up_ne u, up_ne u]; exact hPe j (by omega)
              have q9 : ¬ wIs W (wyN D (K i) h) := fun q => b_187 (lr186.2.2.mpr (hwk.mpr q))
              rw [bfs_new h4 hA2 hno2 (by omega) q9] at hF
              refine ih i (h + 1) (n + 1) _ _ _ _ _ M9 (by omega) (by omega) (by omega) hf9 hN9 (by rw [hl9, e8]; exact hlim) (by omega) (fun j hj => ?_) (hP.up hin) hP9e hF
              by_cases u : j = n
              · subst u; rw [up_at, up_at, up_at]; exact ⟨hKn, q9⟩
              · rw [up_ne u, up_ne u, up_ne u]; exact hK j (by omega)
            · have hn9 : n < 3000 := by rw [e8] at hroom; omega
              have hP9e : ∀ j, j < n + 1 → M9.2.1 259 j = va_up P n (i : Int) j ∧ M9.2.1 260 j = va_up H n (h : Int) j := fun j hj => by
                rw [e259, e260, e8]
                by_cases u : j = n
                · subst u; rw [up_at, up_at, up_at, up_at]; exact ⟨rfl, rfl⟩
                · rw [up_ne u, up_ne u, up_ne u, up_ne u]; exact hPe j (by omega)
              refine r_aload2 (pc2 := 191) dX10_search_190 rfl ?_
              refine r_iload7 (pc2 := 193) dX10_search_191 rfl ?_
              refine r_iload8 (pc2 := 195) dX10_search_193 rfl ?_
              refine r_aload0 (pc2 := 196) dX10_search_195 rfl ?_
              refine r_getR (pc2 := 199) dX10_search_196 rfl fX10_18 (hK_266 (hf9.1.ok hS0)) (hR_266_2 (hf9.1.ok hS0)) ?_
              refine r_cv3 (pc2 := 202) dX10_search_199 rfl vX10_81 (hK_256 (hf9.1.ok hS0)) (by decide) (c_X6_tracePath (d := d + 2) (pa := 269) (n := (n + 1)) (s := i) (last := ((h : Nat) : Int)) (P := (va_up P n (i : Int))) (H := (va_up H n (h : Int))) (hf9.1.ok hS0) (hK_269 (hf9.1.ok hS0)) (by decide) (by decide) (by decide) (by decide) (by omega) (by omega) (fun j j1 j2 => by have := (hP.up hin).2 j j1 j2; omega) hP9e) ?_
              rintro _ M10 ⟨rfl, f10, e10⟩
              show Go (Ct (d + 3)) _ yX10_search cX10_search (some .int) 0 0 202 [some (.ref 266), some (.ref 19), some (.ref 256), some (.long (ma)), none, some (.long (go)), none, some (.int (iI ((i : Nat) : Int))), some (.int (iI ((h : Nat) : Int)))] [.int (iI ((((trc (va_up P n (i : Int)) (va_up H n (h : Int)) i (i : Int)).length + 1) : Nat) : Int))] M10
              refine r_ireti dX10_search_202 rfl ?_
              have q9 : wIs W (wyN D (K i) h) := hwk.mp (lr186.2.2.mp (by omega))
              have et : trc (va_up P n (i : Int)) (va_up H n (h : Int)) i (i : Int) = trc P H i (i : Int) := trc_up hin (fun j j1 j2 => (hP.2 j j1 j2).2)
              rw [bfs_B h4 hA2 hno2 (by omega) q9] at hF
              subst hF
              rw [et]
              refine hQ M9 M10 (n + 1) _ _ hf9 hN9 f10 (fun j hj => ?_)
              rw [e10 j (by rw [et]; exact Int.ofNat_lt.mp hj)]
              unfold trp
              rw [et]
          · refine r_iconst (pc2 := 177) dX10_search_176 rfl ?_
            refine r_ireti dX10_search_177 rfl ?_
            exact absurd b_173 (by omega)
set_option maxHeartbeats 4000000 in
theorem c_X10_search {d : Nat} {M : pM} {n : Nat} {v : Int64} {D : bD} {ix : Nat → Nat} {W s : Nat → Int} (hS : sOk M.1) (hB : CS M 19 D ix) (hD : bOk D) (hv : M.2.2 19 11 = v) (hE : BE D.1.1 ix v s) (hk : bK D s) (hSr : SNr M) (hn : M.2.1 266 3 = (n : Int)) (hW : WL n (M.2.1 267) (M.2.1 268) W) : Ct (d + 4) 0 0 yX10_search [.ref 266, .ref 19, .ref 256] M (fun v M2 => v = some (.int (iI (wyF D W s).1)) ∧ ∃ M3, frS [19] M M3 ∧ SNr M3 ∧ fr [269] M3 M2 ∧ ∀ j : Nat, (j : Int) < (wyF D W s).1 → M2.2.1 269 j = (wyF D W s).2 j) := by
  refine ct_in (d := (d + 3)) kX10_search rfl (by decide) (Nat.le_of_ble_eq_true rfl) (by decide) ?_
  show Go (Ct (d + 3)) _ yX10_search cX10_search (some .int) 0 0 0 [some (.ref 266), some (.ref 19), some (.ref 256), none, none, none, none, none, none] [] M
  refine r_lconst (pc2 := 1) dX10_search_0 rfl ?_
  refine r_lstore3 (pc2 := 2) dX10_search_1 rfl rfl ?_
  refine r_lconst (pc2 := 3) dX10_search_2 rfl ?_
  refine r_lstore5 (pc2 := 5) dX10_search_3 rfl rfl ?_
  refine r_iconst (pc2 := 6) dX10_search_5 rfl ?_
  refine r_istore7 (pc2 := 8) dX10_search_6 rfl rfl ?_
  refine lp1_X10_search (d := d) hS hB (bK_pc hk) hn hW (fun q => ?_) (fun ma go hwo hma hgo => ?_) n 0 0 0 (by omega) (fun k h9 => by omega) mkB_0 mkB_0
  · rw [wyF_no q]; exact ⟨rfl, M, frS.rf, hSr, fr.rf, fun j hj => absurd hj (by show ¬ (j : Int) < -1; omega)⟩
  have hk0 := wi_key hB.1.2.2.2.2.2 hW (hW.ok.mp hwo) hma hgo hE hk
  refine r_aload1 (pc2 := 83) dX10_search_82 rfl ?_
  refine r_getJ (z := v) (pc2 := 86) dX10_search_83 rfl fX10_55 (hK_19 hS) hv ?_
  refine r_lload3 (pc2 := 87) dX10_search_86 rfl ?_
  refine r_land (pc2 := 88) dX10_search_87 rfl ?_
  refine r_lload5 (pc2 := 90) dX10_search_88 rfl ?_
  refine r_lcmp (pc2 := 91) dX10_search_90 rfl ?_
  have lr90 := lcm_r ((v) &&& (ma)) (go)
  rw [lg_iI]
  refine r_ifne (tgt := 96) (pc2 := 94) dX10_search_91 rfl (by decide) ⟨by omega, by omega⟩ (fun b_91 => ?_) (fun b_91 => ?_)
  · refine r_aload2 (pc2 := 97) dX10_search_96 rfl ?_
    refine r_sipush (pc2 := 100) dX10_search_97 rfl (by decide) (by decide) ?_
    refine r_cv1 (pc2 := 103) dX10_search_100 rfl vX10_59 (hK_256 hS) (by decide) (c_X6_begin (d := d + 1) (z := 3000) hS ⟨by omega, by omega⟩) ?_
    rintro _ M8 ⟨rfl, h8⟩
    have hf8 : frS [19] M M8 := frS.sn (by decide) (by rw [h8]; exact (fr.rf.I (by decide)).I (by decide))
    have ev : M8.2.2 19 11 = v := by rw [h8]; exact hv
    have hN8 : SN M8 0 (fun _ => 0) (fun _ => 0) := by rw [h8]; exact SN.start hSr.1 hSr.2
    have hl8 : M8.2.1 256 7 = 3000 := by rw [h8]; rfl
    show Go (Ct (d + 3)) _ yX10_search cX10_search (some .int) 0 0 103 [some (.ref 266), some (.ref 19), some (.ref 256), some (.long (ma)), none, some (.long (go)), none, some (.int (iI ((n : Nat) : Int))), none] [] M8
    refine r_aload2 (pc2 := 104) dX10_search_103 rfl ?_
    refine r_aload1 (pc2 := 105) dX10_search_104 rfl ?_
    refine r_getJ (z := v) (pc2 := 108) dX10_search_105 rfl fX10_55 (hK_19 (hf8.1.ok hS)) ev ?_
    refine r_lconst (pc2 := 109) dX10_search_108 rfl ?_
    refine r_iconst (pc2 := 110) dX10_search_109 rfl ?_
    refine r_iconst (pc2 := 111) dX10_search_110 rfl ?_
    refine r_cv4 (pc2 := 114) dX10_search_111 rfl vX10_65 (hK_256 (hf8.1.ok hS)) (by decide) (c_X6_note (d := d) (n := 0) (A := fun _ => 0) (B := fun _ => 0) (hf8.1.ok hS) hN8 (by omega)) ?_
    rintro _ M9 (⟨j, j1, j2, j3, rfl, h9⟩ | ⟨hno, hfull, rfl, h9⟩ | ⟨hno, hroom, rfl, hN9, hf9, e259, e260, hl9, -⟩)
    · exact absurd j1 (by omega)
    · exact absurd hfull (by omega)
    · have hf9 : frS [19] M M9 := hf8.tr (frS.sn (by decide) hf9)
      have hsz9 : M9.2.1 256 6 = 1 := hN9.1
      show Go (Ct (d + 3)) _ yX10_search cX10_search (some .int) 0 0 114 [some (.ref 266), some (.ref 19), some (.ref 256), some (.long (ma)), none, some (.long (go)), none, some (.int (iI ((n : Nat) : Int))), none] [.int (iI 0)] M9
      refine r_pop (pc2 := 115) dX10_search_114 rfl rfl ?_
      refine r_iconst (pc2 := 116) dX10_search_115 rfl ?_
      refine r_istore7 (pc2 := 118) dX10_search_116 rfl rfl ?_
      refine r_iload7 (pc2 := 120) dX10_search_118 rfl ?_
      refine r_aload2 (pc2 := 121) dX10_search_120 rfl ?_
      refine r_getI (z := 1) (pc2 := 124) dX10_search_121 rfl (Or.inl fX10_69) (hK_256 (hf9.1.ok hS)) hsz9 ?_
      refine r_icge (tgt := 215) (pc2 := 127) dX10_search_124 rfl (by decide) ⟨by omega, by omega⟩ ⟨by omega, by omega⟩ (fun h9 => absurd h9 (by decide)) (fun _ => ?_)
      refine r_iload7 (pc2 := 129) dX10_search_127 rfl ?_
      refine r_sipush (pc2 := 132) dX10_search_129 rfl (by decide) (by decide) ?_
      refine r_icge (tgt := 215) (pc2 := 135) dX10_search_132 rfl (by decide) ⟨by omega, by omega⟩ ⟨by omega, by omega⟩ (fun h9 => absurd h9 (by decide)) (fun _ => ?_)
      refine r_iconst (pc2 := 136) dX10_search_135 rfl ?_
      refine r_istore8 (pc2 := 138) dX10_search_136 rfl rfl ?_
      have hns : ¬ wIs W s := fun q => b_91 (lr90.2.2.mpr (hk0.mpr q))
      rw [wyF_s hwo hns]
      refine lp_X10_search (d := d) (F := wyG D W s) (W := W) M hS hB hD (fun v k h1 h2 => wi_key hB.1.2.2.2.2.2 hW (hW.ok.mp hwo) hma hgo h1 h2) (fun M3 M2 n A B hf hN hf2 hj => ⟨rfl, M3, hf, hN.r, hf2, hj⟩) 15000 0 0 1 (fun _ => s) (fun _ => -1) (fun _ => -1) (va_up (fun _ => 0) 0 v) (va_up (fun _ => 0) 0 0) M9 (by omega) (by omega) (by omega) hf9 hN9 (by rw [hl9]; exact hl8) (by omega) (fun j hj => ?_) ⟨rfl, fun j j1 j2 => by omega⟩ (fun j hj => ?_) rfl
      · obtain rfl : j = 0 := by omega
        rw [up_at, up_at]; exact ⟨⟨hE, rfl, hk⟩, hns⟩
      · obtain rfl : j = 0 := by omega
        rw [e259, e260, up_at, up_at]; exact ⟨rfl, rfl⟩
  · refine r_iconst (pc2 := 95) dX10_search_94 rfl ?_
    refine r_ireti dX10_search_95 rfl ?_
    rw [wyF_0 hwo (hk0.mp (lr90.2.2.mp (by omega)))]
    exact ⟨rfl, M, frS.rf, hSr, fr.rf, fun j hj => absurd hj (by omega)⟩
