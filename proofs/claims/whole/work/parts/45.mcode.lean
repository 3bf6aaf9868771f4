/-! the model's code of what a board shows: the moving places' numbers, in places' order -/
def mvc (pc : Nat → Int) : Nat → Nat
  | 0 => 0
  | q + 1 => if pc q = 4 ∨ pc q = 7 ∨ pc q = 9 then mvc pc q + 1 else mvc pc q
def cdN (pc sh : Nat → Int) : Nat → Nat
  | 0 => 0
  | q + 1 => if pc q = 4 ∨ pc q = 7 ∨ pc q = 9 then cdN pc sh q * 16 + (sh q).toNat else cdN pc sh q
theorem mvc_mono {pc : Nat → Int} : ∀ {q r : Nat}, q ≤ r → mvc pc q ≤ mvc pc r := by
  intro q r h
  induction r with
  | zero => obtain rfl : q = 0 := by omega
            exact Nat.le_refl _
  | succ r ih =>
    by_cases e : q = r + 1
    · subst e; exact Nat.le_refl _
    · refine Nat.le_trans (ih (by omega)) ?_
      rw [mvc]; split <;> omega
theorem cdN_lt {pc sh : Nat → Int} (hs : ∀ p, p < 156 → 0 ≤ sh p ∧ sh p < 16) : ∀ q, q ≤ 156 → cdN pc sh q < 16 ^ mvc pc q := by
  intro q
  induction q with
  | zero => intro _; exact Nat.one_pos
  | succ q ih =>
    intro hq
    have h1 := ih (by omega)
    have h2 := hs q (by omega)
    rw [cdN, mvc]
    split
    · rw [Nat.pow_succ]; omega
    · exact h1
theorem cdN_64 {pc sh : Nat → Int} (hs : ∀ p, p < 156 → 0 ≤ sh p ∧ sh p < 16) (hc : mvc pc 156 ≤ 16) {q : Nat} (hq : q ≤ 156) : cdN pc sh q < 2 ^ 64 := by
  have h1 := cdN_lt (pc := pc) hs q hq
  have h2 : 16 ^ mvc pc q ≤ 16 ^ 16 := Nat.pow_le_pow_right (by decide) (Nat.le_trans (mvc_mono hq) hc)
  have h3 : (16 : Nat) ^ 16 = 2 ^ 64 := by decide
  omega
theorem cdN_inj {pc s1 s2 : Nat → Int} (h1 : ∀ p, p < 156 → 0 ≤ s1 p ∧ s1 p < 16) (h2 : ∀ p, p < 156 → 0 ≤ s2 p ∧ s2 p < 16) : ∀ q, q ≤ 156 → cdN pc s1 q = cdN pc s2 q → ∀ p, p < q → (pc p = 4 ∨ pc p = 7 ∨ pc p = 9) → s1 p = s2 p := by
  intro q
  induction q with
  | zero => intro _ _ p hp; omega
  | succ q ih =>
    intro hq e p hp hm
    have a1 := h1 q (by omega)
    have a2 := h2 q (by omega)
    rw [cdN, cdN] at e
    by_cases hq2 : pc q = 4 ∨ pc q = 7 ∨ pc q = 9
    · rw [if_pos hq2, if_pos hq2] at e
      by_cases e9 : p = q
      · subst e9; omega
      · exact ih (by omega) (by omega) p (by omega) hm
    · rw [if_neg hq2, if_neg hq2] at e
      by_cases e9 : p = q
      · subst e9; exact absurd hm hq2
      · exact ih (by omega) e p (by omega) hm
theorem cdN_congr {pc s1 s2 : Nat → Int} (h : ∀ p, p < 156 → (pc p = 4 ∨ pc p = 7 ∨ pc p = 9) → s1 p = s2 p) : ∀ q, q ≤ 156 → cdN pc s1 q = cdN pc s2 q := by
  intro q
  induction q with
  | zero => intro _; rfl
  | succ q ih =>
    intro hq
    rw [cdN, cdN, ih (by omega)]
    split
    · rename_i hm; rw [h q (by omega) hm]
    · rfl
theorem jL_lN {z : Int} (h : 0 ≤ z) : jL z = lN z.toNat := by
  obtain ⟨v, rfl⟩ := Int.eq_ofNat_of_zero_le h
  unfold jL
  rw [Int64.ofInt_eq_ofNat]; rfl
theorem cd_step {c : Nat} {z : Int} (hz : 0 ≤ z ∧ z < 16) (hc : c * 16 + 16 ≤ 2 ^ 64) : ((lN c) <<< (Int32.toInt64 (iI 4) &&& 63)) ||| (jL z) = lN (c * 16 + z.toNat) := by
  have e : iI 4 = nI 4 := iI_nat 4
  rw [e, wb_shl c (by decide), jL_lN hz.1, wb_or (by omega) (by omega)]
  congr 1
  rw [Nat.mul_comm c, ← Nat.two_pow_add_eq_or_of_lt (i := 4) (by omega)]
theorem cd_low {c : Nat} (hc : c < 2 ^ 64) : ((lN c) &&& (15)).toInt32 = iI ((c % 16 : Nat) : Int) := by
  have e2 : (15 : Int64) = lN (2 ^ 4 - 1) := rfl
  rw [e2, wb_mask hc (by decide), lN_i, iI_nat]
theorem cd_shr {c : Nat} (hc : c < 2 ^ 64) : ((lN c).toUInt64 >>> ((Int32.toInt64 (iI 4)).toUInt64 &&& Int64.toUInt64 63)).toInt64 = lN (c / 16) := by
  have e : iI 4 = nI 4 := iI_nat 4
  rw [e, wb_shr hc (by decide)]
set_option maxHeartbeats 4000000 in
theorem lp_X12_code {d : Nat} {Q : pQ} {b : Nat} {pc sh : Nat → Int} {M : pM} (hS : sOk M.1) (hb : b < 28) (hP : ∀ p, p < 156 → M.2.1 328 (156 * b + p) = pc p) (hpr : ∀ p, p < 156 → 0 ≤ pc p ∧ pc p ≤ 9) (hH : ∀ p, p < 156 → M.2.1 330 (156 * b + p) = sh p) (hs : ∀ p, p < 156 → 0 ≤ sh p ∧ sh p < 16) (hc : mvc pc 156 ≤ 16) (hQ : Q (some (.long (lN (cdN pc sh 156)))) M) :
    ∀ (m q : Nat), q + m = 156 → Go (Ct (d + 1)) Q yX12_code cX12_code (some .long) 0 0 9 [some (.ref 317), some (.int (iI ((b : Nat) : Int))), some (.long (lN (cdN pc sh q))), none, some (.int (iI ((156 * b + q : Nat) : Int)))] [] M := by
  intro m
  induction m with
  | zero =>
    intro q hm
    obtain rfl : q = 156 := by omega
    refine r_iload4 (pc2 := 11) dX12_code_9 rfl ?_
    refine r_sipush (pc2 := 14) dX12_code_11 rfl (by decide) (by decide) ?_
    refine r_iload1 (pc2 := 15) dX12_code_14 rfl ?_
    refine r_imul (c := (156 * ((b : Nat) : Int))) (pc2 := 16) dX12_code_15 rfl rfl ?_
    refine r_sipush (pc2 := 19) dX12_code_16 rfl (by decide) (by decide) ?_
    refine r_iadd (c := ((156 * ((b : Nat) : Int)) + 156)) (pc2 := 20) dX12_code_19 rfl rfl ?_
    refine r_icge (tgt := 55) (pc2 := 23) dX12_code_20 rfl (by decide) ⟨by omega, by omega⟩ ⟨by omega, by omega⟩ (fun b_20 => ?_) (fun b_20 => ?_)
    · refine r_lload2 (pc2 := 56) dX12_code_55 rfl ?_
      exact go_lret dX12_code_56 rfl hQ
    · exact absurd b_20 (by omega)
  | succ m ih =>
    intro q hm
    have hq1 := hP q (by omega)
    have hq2 := hH q (by omega)
    have hq3 := hpr q (by omega)
    have hq4 := hs q (by omega)
    refine r_iload4 (pc2 := 11) dX12_code_9 rfl ?_
    refine r_sipush (pc2 := 14) dX12_code_11 rfl (by decide) (by decide) ?_
    refine r_iload1 (pc2 := 15) dX12_code_14 rfl ?_
    refine r_imul (c := (156 * ((b : Nat) : Int))) (pc2 := 16) dX12_code_15 rfl rfl ?_
    refine r_sipush (pc2 := 19) dX12_code_16 rfl (by decide) (by decide) ?_
    refine r_iadd (c := ((156 * ((b : Nat) : Int)) + 156)) (pc2 := 20) dX12_code_19 rfl rfl ?_
    refine r_icge (tgt := 55) (pc2 := 23) dX12_code_20 rfl (by decide) ⟨by omega, by omega⟩ ⟨by omega, by omega⟩ (fun b_20 => ?_) (fun b_20 => ?_)
    · refine r_lload2 (pc2 := 56) dX12_code_55 rfl ?_
      exact absurd b_20 (by omega)
    · refine r_aload0 (pc2 := 24) dX12_code_23 rfl ?_
      refine r_getR (pc2 := 27) dX12_code_24 rfl fX12_86 (hK_317 hS) (hR_317_17 hS) ?_
      refine r_iload4 (pc2 := 29) dX12_code_27 rfl ?_
      refine r_iald (z := (pc q)) (pc2 := 30) dX12_code_29 rfl (hK_328 hS) (156 * b + q) rfl (by omega) hq1 ?_
      refine r_cs1 (pc2 := 33) dX12_code_30 rfl sX12_250 (by decide) (c_X12_isMoving (d := d) (k := pc q) ⟨by omega, by omega⟩) ?_
      rintro _ M9 ⟨rfl, h9⟩
      rw [h9]
      show Go (Ct (d + 1)) _ yX12_code cX12_code (some .long) 0 0 33 [some (.ref 317), some (.int (iI ((b : Nat) : Int))), some (.long (lN (cdN pc sh q))), none, some (.int (iI ((156 * b + q : Nat) : Int)))] [.int (iI (if pc q = 4 ∨ pc q = 7 ∨ pc q = 9 then 1 else 0))] M
      refine r_ifeq (tgt := 49) (pc2 := 36) dX12_code_33 rfl (by decide) ⟨by omega, by omega⟩ (fun b_33 => ?_) (fun b_33 => ?_)
      · refine r_iinc4 (z := ((156 * b + (q + 1) : Nat) : Int)) (pc2 := 52) dX12_code_49 rfl (by omega) rfl ?_
        refine r_goto (tgt := 9) dX12_code_52 (by decide) ?_
        have hn : ¬ (pc q = 4 ∨ pc q = 7 ∨ pc q = 9) := fun h => by rw [if_pos h] at b_33; exact absurd b_33 (by decide)
        have e9 : cdN pc sh q = cdN pc sh (q + 1) := by rw [cdN, if_neg hn]
        rw [e9]
        exact ih (q + 1) (by omega)
      · refine r_lload2 (pc2 := 37) dX12_code_36 rfl ?_
        refine r_iconst (pc2 := 38) dX12_code_37 rfl ?_
        refine r_lshl (pc2 := 39) dX12_code_38 rfl ?_
        refine r_aload0 (pc2 := 40) dX12_code_39 rfl ?_
        refine r_getR (pc2 := 43) dX12_code_40 rfl fX12_92 (hK_317 hS) (hR_317_19 hS) ?_
        refine r_iload4 (pc2 := 45) dX12_code_43 rfl ?_
        refine r_iald (z := (sh q)) (pc2 := 46) dX12_code_45 rfl (hK_330 hS) (156 * b + q) rfl (by omega) hq2 ?_
        refine r_i2l (pc2 := 47) dX12_code_46 rfl ⟨by omega, by omega⟩ ?_
        refine r_lor (pc2 := 48) dX12_code_47 rfl ?_
        refine r_lstore2 (pc2 := 49) dX12_code_48 rfl rfl ?_
        refine r_iinc4 (z := ((156 * b + (q + 1) : Nat) : Int)) (pc2 := 52) dX12_code_49 rfl (by omega) rfl ?_
        refine r_goto (tgt := 9) dX12_code_52 (by decide) ?_
        have hn : pc q = 4 ∨ pc q = 7 ∨ pc q = 9 := Decidable.byContradiction (fun h => b_33 (if_neg h))
        have e9 : cdN pc sh q * 16 + (sh q).toNat = cdN pc sh (q + 1) := by rw [cdN, if_pos hn]
        have e8 : cdN pc sh q < 16 ^ 15 := Nat.lt_of_lt_of_le (cdN_lt hs q (by omega)) (Nat.pow_le_pow_right (by decide) (by have := mvc_mono (pc := pc) (show q + 1 ≤ 156 by omega); rw [mvc, if_pos hn] at this; omega))
        have e7 : (16 : Nat) ^ 15 * 16 = 2 ^ 64 := by decide
        rw [cd_step hq4 (by omega), e9]
        exact ih (q + 1) (by omega)
set_option maxHeartbeats 4000000 in
theorem c_X12_code {d : Nat} {M : pM} {b : Nat} {pc sh : Nat → Int} (hS : sOk M.1) (hb : b < 28) (hP : ∀ p, p < 156 → M.2.1 328 (156 * b + p) = pc p) (hpr : ∀ p, p < 156 → 0 ≤ pc p ∧ pc p ≤ 9) (hH : ∀ p, p < 156 → M.2.1 330 (156 * b + p) = sh p) (hs : ∀ p, p < 156 → 0 ≤ sh p ∧ sh p < 16) (hc : mvc pc 156 ≤ 16) : Ct (d + 2) 0 0 yX12_code [.ref 317, .int (iI ((b : Nat) : Int))] M (fun v M2 => v = some (.long (lN (cdN pc sh 156))) ∧ M2 = M) := by
  refine ct_in (d := (d + 1)) kX12_code rfl (by decide) (Nat.le_of_ble_eq_true rfl) (by decide) ?_
  show Go (Ct (d + 1)) _ yX12_code cX12_code (some .long) 0 0 0 [some (.ref 317), some (.int (iI ((b : Nat) : Int))), none, none, none] [] M
  refine r_lconst (pc2 := 1) dX12_code_0 rfl ?_
  refine r_lstore2 (pc2 := 2) dX12_code_1 rfl rfl ?_
  refine r_sipush (pc2 := 5) dX12_code_2 rfl (by decide) (by decide) ?_
  refine r_iload1 (pc2 := 6) dX12_code_5 rfl ?_
  refine r_imul (c := (156 * ((b : Nat) : Int))) (pc2 := 7) dX12_code_6 rfl rfl ?_
  refine r_istore4 (pc2 := 9) dX12_code_7 rfl rfl ?_
  rw [show 156 * ((b : Nat) : Int) = ((156 * b + 0 : Nat) : Int) by omega]
  exact lp_X12_code (d := d) hS hb hP hpr hH hs hc ⟨rfl, rfl⟩ 156 0 (by omega)
set_option maxHeartbeats 4000000 in
theorem lp_X12_uncode {d : Nat} {Q : pQ} {b : Nat} {pc sh : Nat → Int} (M0 : pM) (hS0 : sOk M0.1) (v0 : Int64) (hb : b < 28) (hP : ∀ p, p < 156 → M0.2.1 328 (156 * b + p) = pc p) (hpr : ∀ p, p < 156 → 0 ≤ pc p ∧ pc p ≤ 9) (hs : ∀ p, p < 156 → 0 ≤ sh p ∧ sh p < 16) (hc : mvc pc 156 ≤ 16) (ho : ∀ p, p < 156 → ¬ (pc p = 4 ∨ pc p = 7 ∨ pc p = 9) → M0.2.1 330 (156 * b + p) = sh p)
    (hQ : ∀ M2, fr [330] M0 M2 → M2.2.1 330 = sB (M0.2.1 330) 156 b sh → Q none M2) :
    ∀ (q : Nat) (z : Int) (M : pM), q ≤ 156 → z = ((156 * b + q : Nat) : Int) - 1 → fr [330] M0 M → M.2.1 330 = sB (M0.2.1 330) 156 b (fun p => if q ≤ p then sh p else M0.2.1 330 (156 * b + p)) → Go (Ct (d + 1)) Q yX12_uncode cX12_uncode none 0 0 16 [some (.ref 317), some (.int (iI ((b : Nat) : Int))), some (.long v0), none, some (.long (lN (cdN pc sh q))), none, some (.int (iI z))] [] M := by
  intro q
  induction q with
  | zero =>
    intro z M hq hz hfr hM
    have hS := hfr.ok hS0
    refine r_iload6 (pc2 := 18) dX12_uncode_16 rfl ?_
    refine r_sipush (pc2 := 21) dX12_uncode_18 rfl (by decide) (by decide) ?_
    refine r_iload1 (pc2 := 22) dX12_uncode_21 rfl ?_
    refine r_imul (c := (156 * ((b : Nat) : Int))) (pc2 := 23) dX12_uncode_22 rfl rfl ?_
    refine r_iclt (tgt := 65) (pc2 := 26) dX12_uncode_23 rfl (by decide) ⟨by omega, by omega⟩ ⟨by omega, by omega⟩ (fun b_23 => ?_) (fun b_23 => ?_)
    · refine r_ret dX12_uncode_65 rfl ?_
      refine hQ M hfr ?_
      rw [hM]
      exact sB_congr (fun p hp => if_pos (Nat.zero_le p))
    · exact absurd b_23 (by omega)
  | succ q ih =>
    intro z M hq hz hfr hM
    have hS := hfr.ok hS0
    obtain rfl : z = ((156 * b + q : Nat) : Int) := by omega
    have hq1 : M.2.1 328 (156 * b + q) = pc q := by rw [hfr.i (by decide)]; exact hP q (by omega)
    have hq3 := hpr q (by omega)
    have hq4 := hs q (by omega)
    have hq5 := cdN_64 (pc := pc) hs hc hq
    refine r_iload6 (pc2 := 18) dX12_uncode_16 rfl ?_
    refine r_sipush (pc2 := 21) dX12_uncode_18 rfl (by decide) (by decide) ?_
    refine r_iload1 (pc2 := 22) dX12_uncode_21 rfl ?_
    refine r_imul (c := (156 * ((b : Nat) : Int))) (pc2 := 23) dX12_uncode_22 rfl rfl ?_
    refine r_iclt (tgt := 65) (pc2 := 26) dX12_uncode_23 rfl (by decide) ⟨by omega, by omega⟩ ⟨by omega, by omega⟩ (fun b_23 => ?_) (fun b_23 => ?_)
    · refine r_ret dX12_uncode_65 rfl ?_
      exact absurd b_23 (by omega)
    · refine r_aload0 (pc2 := 27) dX12_uncode_26 rfl ?_
      refine r_getR (pc2 := 30) dX12_uncode_27 rfl fX12_86 (hK_317 hS) (hR_317_17 hS) ?_
      refine r_iload6 (pc2 := 32) dX12_uncode_30 rfl ?_
      refine r_iald (z := (pc q)) (pc2 := 33) dX12_uncode_32 rfl (hK_328 hS) (156 * b + q) rfl (by omega) hq1 ?_
      refine r_cs1 (pc2 := 36) dX12_uncode_33 rfl sX12_250 (by decide) (c_X12_isMoving (d := d) (k := pc q) ⟨by omega, by omega⟩) ?_
      rintro _ M9 ⟨rfl, h9⟩
      rw [h9]
      show Go (Ct (d + 1)) _ yX12_uncode cX12_uncode none 0 0 36 [some (.ref 317), some (.int (iI ((b : Nat) : Int))), some (.long (v0)), none, some (.long (lN (cdN pc sh (q + 1)))), none, some (.int (iI ((156 * b + q : Nat) : Int)))] [.int (iI (if pc q = 4 ∨ pc q = 7 ∨ pc q = 9 then 1 else 0))] M
      refine r_ifeq (tgt := 59) (pc2 := 39) dX12_uncode_36 rfl (by decide) ⟨by omega, by omega⟩ (fun b_36 => ?_) (fun b_36 => ?_)
      · refine r_iinc6 (z := (((156 * b + q : Nat) : Int) + (-1))) (pc2 := 62) dX12_uncode_59 rfl rfl rfl ?_
        refine r_goto (tgt := 16) dX12_uncode_62 (by decide) ?_
        have hn : ¬ (pc q = 4 ∨ pc q = 7 ∨ pc q = 9) := fun h => by rw [if_pos h] at b_36; exact absurd b_36 (by decide)
        have e9 : cdN pc sh (q + 1) = cdN pc sh q := by rw [cdN, if_neg hn]
        rw [e9]
        refine ih _ M (by omega) (by omega) hfr ?_
        rw [hM]
        refine sB_congr (fun p hp => ?_)
        by_cases e7 : p = q
        · subst e7; rw [if_neg (by omega), if_pos (Nat.le_refl _)]; exact ho p hp hn
        · by_cases e6 : q ≤ p
          · rw [if_pos (by omega), if_pos e6]
          · rw [if_neg (by omega), if_neg e6]
      · refine r_aload0 (pc2 := 40) dX12_uncode_39 rfl ?_
        refine r_getR (pc2 := 43) dX12_uncode_40 rfl fX12_92 (hK_317 hS) (hR_317_19 hS) ?_
        refine r_iload6 (pc2 := 45) dX12_uncode_43 rfl ?_
        refine r_lload4 (pc2 := 47) dX12_uncode_45 rfl ?_
        refine r_ldc2 (pc2 := 50) dX12_uncode_47 rfl lX12_322 ?_
        refine r_land (pc2 := 51) dX12_uncode_50 rfl ?_
        refine r_l2i (pc2 := 52) dX12_uncode_51 rfl ?_
        rw [cd_low hq5]
        refine r_iast (z := ((cdN pc sh (q + 1) % 16 : Nat) : Int)) (pc2 := 53) dX12_uncode_52 rfl (hK_330 hS) (by decide) (156 * b + q) rfl (by omega) ?_
        refine r_lload4 (pc2 := 55) dX12_uncode_53 rfl ?_
        refine r_iconst (pc2 := 56) dX12_uncode_55 rfl ?_
        refine r_lushr (pc2 := 57) dX12_uncode_56 rfl ?_
        refine r_lstore4 (pc2 := 59) dX12_uncode_57 rfl rfl ?_
        refine r_iinc6 (z := (((156 * b + q : Nat) : Int) + (-1))) (pc2 := 62) dX12_uncode_59 rfl rfl rfl ?_
        refine r_goto (tgt := 16) dX12_uncode_62 (by decide) ?_
        have hn : pc q = 4 ∨ pc q = 7 ∨ pc q = 9 := Decidable.byContradiction (fun h => b_36 (if_neg h))
        have e9 : cdN pc sh (q + 1) = cdN pc sh q * 16 + (sh q).toNat := by rw [cdN, if_pos hn]
        rw [cd_shr hq5, show cdN pc sh (q + 1) / 16 = cdN pc sh q by omega]
        refine ih _ _ (by omega) (by omega) (hfr.I List.mem_cons_self) ?_
        rw [pI_eq, hM, sB_up (by omega)]
        refine sB_congr (fun p hp => ?_)
        by_cases e7 : p = q
        · subst e7; rw [up_at, if_pos (Nat.le_refl _)]; omega
        · rw [up_ne e7]
          by_cases e6 : q ≤ p
          · rw [if_pos (by omega), if_pos e6]
          · rw [if_neg (by omega), if_neg e6]
set_option maxHeartbeats 4000000 in
theorem c_X12_uncode {d : Nat} {M : pM} {b : Nat} {pc sh : Nat → Int} (hS : sOk M.1) (hb : b < 28) (hP : ∀ p, p < 156 → M.2.1 328 (156 * b + p) = pc p) (hpr : ∀ p, p < 156 → 0 ≤ pc p ∧ pc p ≤ 9) (hs : ∀ p, p < 156 → 0 ≤ sh p ∧ sh p < 16) (hc : mvc pc 156 ≤ 16) (ho : ∀ p, p < 156 → ¬ (pc p = 4 ∨ pc p = 7 ∨ pc p = 9) → M.2.1 330 (156 * b + p) = sh p) : Ct (d + 2) 0 0 yX12_uncode [.ref 317, .int (iI ((b : Nat) : Int)), .long (lN (cdN pc sh 156))] M (fun v M2 => v = none ∧ fr [330] M M2 ∧ M2.2.1 330 = sB (M.2.1 330) 156 b sh) := by
  refine ct_in (d := (d + 1)) kX12_uncode rfl (by decide) (Nat.le_of_ble_eq_true rfl) (by decide) ?_
  show Go (Ct (d + 1)) _ yX12_uncode cX12_uncode none 0 0 0 [some (.ref 317), some (.int (iI ((b : Nat) : Int))), some (.long (lN (cdN pc sh 156))), none, none, none, none] [] M
  refine r_lload2 (pc2 := 1) dX12_uncode_0 rfl ?_
  refine r_lstore4 (pc2 := 3) dX12_uncode_1 rfl rfl ?_
  refine r_sipush (pc2 := 6) dX12_uncode_3 rfl (by decide) (by decide) ?_
  refine r_iload1 (pc2 := 7) dX12_uncode_6 rfl ?_
  refine r_imul (c := (156 * ((b : Nat) : Int))) (pc2 := 8) dX12_uncode_7 rfl rfl ?_
  refine r_sipush (pc2 := 11) dX12_uncode_8 rfl (by decide) (by decide) ?_
  refine r_iadd (c := ((156 * ((b : Nat) : Int)) + 156)) (pc2 := 12) dX12_uncode_11 rfl rfl ?_
  refine r_iconst (pc2 := 13) dX12_uncode_12 rfl ?_
  refine r_isub (c := (((156 * ((b : Nat) : Int)) + 156) - 1)) (pc2 := 14) dX12_uncode_13 rfl rfl ?_
  refine r_istore6 (pc2 := 16) dX12_uncode_14 rfl rfl ?_
  refine lp_X12_uncode (d := d) M hS _ hb hP hpr hs hc ho (fun M2 h1 h2 => ⟨rfl, h1, h2⟩) 156 _ M (by omega) (by omega) fr.rf ?_
  refine sB_of (fun p hp => ?_)
  rw [if_neg (by omega)]
