/-! the class's Sights (270: hoppers 271, hows 272, numbers 273, stucks 274, states 275, ends 276; told 6, suspects 7, listedShelf 8) -/
def CL (D : bD) (ix : Nat → Nat) (M : pM) (S : sS) : Prop := M.2.1 270 7 = (S.1 : Int) ∧ ∀ i, i < S.1 → M.2.1 273 i = (S.2 i).1 ∧ stk D.1.1 (bT D) ix (S.2 i).2.1 (M.2.2 274 i) ∧ BE D.1.1 ix (M.2.2 275 i) (S.2 i).2.2
/-- board b has tried, suspects came -/
def frL (b : Nat) (M M2 : pM) : Prop := fr [b, 270, 273, 274, 275] M M2 ∧ (M2.2.1 b = M.2.1 b ∧ ∀ k, k ≠ 12 → M2.2.2 b k = M.2.2 b k) ∧ ∀ k, k ≠ 7 → M2.2.1 270 k = M.2.1 270 k
theorem frL.rf {b : Nat} {M : pM} : frL b M M := ⟨fr.rf, ⟨rfl, fun _ _ => rfl⟩, fun _ _ => rfl⟩
theorem frL.tr {b : Nat} {M M1 M2 : pM} (h : frL b M M1) (h2 : frL b M1 M2) : frL b M M2 := ⟨h.1.tr h2.1, ⟨h2.2.1.1.trans h.2.1.1, fun k hk => (h2.2.1.2 k hk).trans (h.2.1.2 k hk)⟩, fun k hk => (h2.2.2 k hk).trans (h.2.2 k hk)⟩
theorem isB_270 {b k : Nat} (hb : isB b) (hk : k ≤ 9) : b + k ∉ [270, 271, 272, 273, 274, 275, 276] := by
  unfold isB at hb
  simp only [List.mem_cons, List.not_mem_nil, or_false] at hb ⊢
  omega
theorem frL.J {b : Nat} {M : pM} {v : Int64} (hb : isB b) : frL b M (pJ M b 12 v) := ⟨fr.rf.J (by simp), ⟨rfl, fun k hk => pJ_nk hk⟩, fun k _ => rfl⟩
theorem CS.fl {b : Nat} {M M2 : pM} {D : bD} {ix : Nat → Nat} (h : CS M b D ix) (hb : isB b) (hf : frL b M M2) : CS M2 b D ix := h.of (fun k h1 h2 => hf.1.2 _ (fun q => by
  have := isB_270 (k := k) hb h2
  simp only [List.mem_cons, List.not_mem_nil, or_false] at q this
  omega))
theorem CL.of {D : bD} {ix : Nat → Nat} {M M2 : pM} {S : sS} (h : CL D ix M S) (h1 : M2.2.1 270 7 = M.2.1 270 7) (h2 : M2.2.1 273 = M.2.1 273) (h3 : M2.2.2 274 = M.2.2 274) (h4 : M2.2.2 275 = M.2.2 275) : CL D ix M2 S := ⟨by rw [h1]; exact h.1, fun i hi => by rw [h2, h3, h4]; exact h.2 i hi⟩
theorem isB_d {b : Nat} (hb : isB b) : b ≠ 270 ∧ b ≠ 271 ∧ b ≠ 272 ∧ b ≠ 273 ∧ b ≠ 274 ∧ b ≠ 275 ∧ b ≠ 276 := by
  have := isB_270 (k := 0) hb (by omega)
  simp only [List.mem_cons, List.not_mem_nil, or_false] at this
  omega
theorem CL.J {D : bD} {ix : Nat → Nat} {M : pM} {S : sS} {b : Nat} {v : Int64} (h : CL D ix M S) (hb : isB b) : CL D ix (pJ M b 12 v) S := by
  have := isB_d hb
  exact h.of rfl rfl (pJ_ne (by omega)) (pJ_ne (by omega))
/-- the SIGHTS, as the class has them -/
def sgC (M : pM) (n : Nat) (ho : Nat → Nat) (hw : Nat → Int) : Prop := M.2.1 270 6 = (n : Int) ∧ n ≤ 60 ∧ ∀ i, i < n → M.2.1 271 i = ((ho i : Nat) : Int) ∧ M.2.1 272 i = hw i ∧ inR (hw i)
theorem sgC.fl {b n : Nat} {M M2 : pM} {ho : Nat → Nat} {hw : Nat → Int} (h : sgC M n ho hw) (hb : isB b) (hf : frL b M M2) : sgC M2 n ho hw := by
  have hd := isB_d hb
  have n1 : 271 ∉ [b, 270, 273, 274, 275] := by simp only [List.mem_cons, List.not_mem_nil, or_false]; omega
  have n2 : 272 ∉ [b, 270, 273, 274, 275] := by simp only [List.mem_cons, List.not_mem_nil, or_false]; omega
  exact ⟨by rw [hf.2.2 6 (by decide)]; exact h.1, h.2.1, fun i hi => by rw [hf.1.i n1, hf.1.i n2]; exact h.2.2 i hi⟩
theorem CL.add {D : bD} {ix : Nat → Nat} {M : pM} {S : sS} {nu st : Int} {u v2 : Int64} {t : Nat → Int} (h : CL D ix M S) (hst : stk D.1.1 (bT D) ix st u) (hE : BE D.1.1 ix v2 t) : CL D ix (pI (pJ (pJ (pI M 273 S.1 nu) 274 S.1 u) 275 S.1 v2) 270 7 (((S.1 + 1 : Nat)) : Int)) (S.1 + 1, va_up S.2 S.1 (nu, st, t)) := by
  refine ⟨pI_at, fun i hi => ?_⟩
  have hi : i < S.1 + 1 := hi
  show va_up (M.2.1 273) S.1 nu i = (va_up S.2 S.1 (nu, st, t) i).1 ∧ stk D.1.1 (bT D) ix (va_up S.2 S.1 (nu, st, t) i).2.1 (va_up (M.2.2 274) S.1 u i) ∧ BE D.1.1 ix (va_up (M.2.2 275) S.1 v2 i) (va_up S.2 S.1 (nu, st, t) i).2.2
  by_cases e : i = S.1
  · subst e; rw [up_at, up_at, up_at, up_at]; exact ⟨rfl, hst, hE⟩
  · rw [up_ne e, up_ne e, up_ne e, up_ne e]; exact h.2 i (by omega)
theorem frL.add {b k : Nat} {M : pM} {nu z : Int} {u v2 : Int64} (hb : isB b) : frL b M (pI (pJ (pJ (pI M 273 k nu) 274 k u) 275 k v2) 270 7 z) := by
  have hd := isB_d hb
  refine ⟨(((fr.rf.I (by simp)).J (by simp)).J (by simp)).I (by simp), ⟨?_, fun q hq => ?_⟩, fun q hq => ?_⟩
  · rw [pI_ne (by omega), pJ_i, pJ_i, pI_ne (by omega)]
  · show (pJ (pJ (pI M 273 k nu) 274 k u) 275 k v2).2.2 b q = _
    rw [pJ_ne (by omega), pJ_ne (by omega)]; rfl
  · rw [pI_nk hq]; rfl

set_option maxHeartbeats 4000000 in
theorem lp_X7_weigh {d : Nat} {Q : pQ} {b n : Nat} {u : Int64} {st nu : Int} {D : bD} {ix ho : Nat → Nat} {hw : Nat → Int} {S : sS} {R : Option (Nat → Int)} (M0 : pM) (hS0 : sOk M0.1) (hb_b : isB b) (hC0 : CS M0 b D ix) (hD : bOk D) (hst : stk D.1.1 (bT D) ix st u) (hg0 : sgC M0 n ho hw) (hh : ∀ i, ho i < 4) (hL0 : CL D ix M0 S) (hS16 : S.1 ≤ 16)
    (hQ1 : ∀ M2, frL b M0 M2 → R = none → CL D ix M2 S → Q none M2) (hQ2 : ∀ M2 t, frL b M0 M2 → R = some t → CL D ix M2 (S.1 + 1, va_up S.2 S.1 (nu, st, t)) → Q none M2) :
    ∀ (m i : Nat) (sh : Nat → Int) (v : Int64) (M : pM), i + m = n → BE D.1.1 ix v sh → bK D sh → frL b M0 M → CL D ix M S → wg D st ho hw m i sh = R →
      Go (Ct (d + 3)) Q yX7_weigh cX7_weigh none 0 0 9 [some (.ref 270), some (.ref b), some (.int (iI nu)), some (.long u), none, some (.long v), none, some (.int (iI ((i : Nat) : Int)))] [] M := by
  have hn60 := hg0.2.1
  intro m
  induction m with
  | zero =>
    intro i sh v M hm hE hk hfr hL hR
    obtain rfl : i = n := by omega
    have hS := hfr.1.ok hS0
    have hn := (hg0.fl hb_b hfr).1
    have hsu := hL.1
    rw [wg] at hR
    refine r_iload7 (pc2 := 11) dX7_weigh_9 rfl ?_
    refine r_aload0 (pc2 := 12) dX7_weigh_11 rfl ?_
    refine r_getI (z := ((i : Nat) : Int)) (pc2 := 15) dX7_weigh_12 rfl (Or.inl fX7_35) (hK_270 hS) hn ?_
    refine r_icge (tgt := 55) (pc2 := 18) dX7_weigh_15 rfl (by decide) ⟨by omega, by omega⟩ ⟨by omega, by omega⟩ (fun b_15 => ?_) (fun b_15 => ?_)
    · refine r_aload0 (pc2 := 56) dX7_weigh_55 rfl ?_
      refine r_getI (z := ((S.1 : Nat) : Int)) (pc2 := 59) dX7_weigh_56 rfl (Or.inl fX7_38) (hK_270 hS) hsu ?_
      refine r_bipush (pc2 := 61) dX7_weigh_59 rfl (by decide) (by decide) ?_
      refine r_icgt (tgt := 105) (pc2 := 64) dX7_weigh_61 rfl (by decide) ⟨by omega, by omega⟩ ⟨by omega, by omega⟩ (fun b_61 => ?_) (fun b_61 => ?_)
      · refine r_ret dX7_weigh_105 rfl ?_
        exact absurd b_61 (by omega)
      · refine r_aload0 (pc2 := 65) dX7_weigh_64 rfl ?_
        refine r_getR (pc2 := 68) dX7_weigh_65 rfl fX7_18 (hK_270 hS) (hR_270_2 hS) ?_
        refine r_aload0 (pc2 := 69) dX7_weigh_68 rfl ?_
        refine r_getI (z := ((S.1 : Nat) : Int)) (pc2 := 72) dX7_weigh_69 rfl (Or.inl fX7_38) (hK_270 hS) hsu ?_
        refine r_iload2 (pc2 := 73) dX7_weigh_72 rfl ?_
        refine r_iast (z := nu) (pc2 := 74) dX7_weigh_73 rfl (hK_273 hS) (by decide) (S.1) rfl (by omega) ?_
        refine r_aload0 (pc2 := 75) dX7_weigh_74 rfl ?_
        refine r_getR (pc2 := 78) dX7_weigh_75 rfl fX7_21 (hK_270 hS) (hR_270_3 hS) ?_
        refine r_aload0 (pc2 := 79) dX7_weigh_78 rfl ?_
        refine r_getI (z := ((S.1 : Nat) : Int)) (pc2 := 82) dX7_weigh_79 rfl (Or.inl fX7_38) (hK_270 hS) hsu ?_
        refine r_lload3 (pc2 := 83) dX7_weigh_82 rfl ?_
        refine r_last (pc2 := 84) dX7_weigh_83 rfl (hK_274 hS) (by decide) (S.1) rfl (by omega) ?_
        refine r_aload0 (pc2 := 85) dX7_weigh_84 rfl ?_
        refine r_getR (pc2 := 88) dX7_weigh_85 rfl fX7_25 (hK_270 hS) (hR_270_4 hS) ?_
        refine r_aload0 (pc2 := 89) dX7_weigh_88 rfl ?_
        refine r_getI (z := ((S.1 : Nat) : Int)) (pc2 := 92) dX7_weigh_89 rfl (Or.inl fX7_38) (hK_270 hS) hsu ?_
        refine r_lload5 (pc2 := 94) dX7_weigh_92 rfl ?_
        refine r_last (pc2 := 95) dX7_weigh_94 rfl (hK_275 hS) (by decide) (S.1) rfl (by omega) ?_
        refine r_aload0 (pc2 := 96) dX7_weigh_95 rfl ?_
        refine r_dup (pc2 := 97) dX7_weigh_96 rfl rfl ?_
        refine r_getI (z := ((S.1 : Nat) : Int)) (pc2 := 100) dX7_weigh_97 rfl (Or.inl fX7_38) (hK_270 hS) hsu ?_
        refine r_iconst (pc2 := 101) dX7_weigh_100 rfl ?_
        refine r_iadd (c := ((S.1 + 1 : Nat) : Int)) (pc2 := 102) dX7_weigh_101 rfl (by omega) ?_
        refine r_putI (z := ((S.1 + 1 : Nat) : Int)) (pc2 := 105) dX7_weigh_102 rfl fX7_38 (w7_7 _) (hK_270 hS) (by decide) ?_
        refine r_ret dX7_weigh_105 rfl ?_
        exact hQ2 _ sh (hfr.tr (frL.add hb_b)) hR.symm (hL.add hst hE)
    · exact absurd b_15 (by omega)
  | succ m ih =>
    intro i sh v M hm hE hk hfr hL hR
    have hS := hfr.1.ok hS0
    have hg := hg0.fl hb_b hfr
    have hn := hg.1
    obtain ⟨hi1, hi2, hi3, hi4⟩ := hg.2.2 i (by omega)
    have hd1 := bH_K (st := st) hD (hh i) hk
    rw [wg] at hR
    refine r_iload7 (pc2 := 11) dX7_weigh_9 rfl ?_
    refine r_aload0 (pc2 := 12) dX7_weigh_11 rfl ?_
    refine r_getI (z := ((n : Nat) : Int)) (pc2 := 15) dX7_weigh_12 rfl (Or.inl fX7_35) (hK_270 hS) hn ?_
    refine r_icge (tgt := 55) (pc2 := 18) dX7_weigh_15 rfl (by decide) ⟨by omega, by omega⟩ ⟨by omega, by omega⟩ (fun b_15 => ?_) (fun b_15 => ?_)
    · refine r_aload0 (pc2 := 56) dX7_weigh_55 rfl ?_
      refine r_getI (z := (M.2.1 270 7)) (pc2 := 59) dX7_weigh_56 rfl (Or.inl fX7_38) (hK_270 hS) rfl ?_
      refine r_bipush (pc2 := 61) dX7_weigh_59 rfl (by decide) (by decide) ?_
      refine r_icgt (tgt := 105) (pc2 := 64) dX7_weigh_61 rfl (by decide) ⟨by omega, by omega⟩ ⟨by omega, by omega⟩ (fun b_61 => ?_) (fun b_61 => ?_)
      · refine r_ret dX7_weigh_105 rfl ?_
        exact absurd b_15 (by omega)
      · refine r_aload0 (pc2 := 65) dX7_weigh_64 rfl ?_
        refine r_getR (pc2 := 68) dX7_weigh_65 rfl fX7_18 (hK_270 hS) (hR_270_2 hS) ?_
        refine r_aload0 (pc2 := 69) dX7_weigh_68 rfl ?_
        refine r_getI (z := (M.2.1 270 7)) (pc2 := 72) dX7_weigh_69 rfl (Or.inl fX7_38) (hK_270 hS) rfl ?_
        refine r_iload2 (pc2 := 73) dX7_weigh_72 rfl ?_
        refine r_iast (z := nu) (pc2 := 74) dX7_weigh_73 rfl (hK_273 hS) (by decide) ((M.2.1 270 7)).toNat (by omega) (by omega) ?_
        refine r_aload0 (pc2 := 75) dX7_weigh_74 rfl ?_
        refine r_getR (pc2 := 78) dX7_weigh_75 rfl fX7_21 (hK_270 hS) (hR_270_3 hS) ?_
        refine r_aload0 (pc2 := 79) dX7_weigh_78 rfl ?_
        refine r_getI (z := (M.2.1 270 7)) (pc2 := 82) dX7_weigh_79 rfl (Or.inl fX7_38) (hK_270 hS) rfl ?_
        refine r_lload3 (pc2 := 83) dX7_weigh_82 rfl ?_
        refine r_last (pc2 := 84) dX7_weigh_83 rfl (hK_274 hS) (by decide) ((M.2.1 270 7)).toNat (by omega) (by omega) ?_
        refine r_aload0 (pc2 := 85) dX7_weigh_84 rfl ?_
        refine r_getR (pc2 := 88) dX7_weigh_85 rfl fX7_25 (hK_270 hS) (hR_270_4 hS) ?_
        refine r_aload0 (pc2 := 89) dX7_weigh_88 rfl ?_
        refine r_getI (z := (M.2.1 270 7)) (pc2 := 92) dX7_weigh_89 rfl (Or.inl fX7_38) (hK_270 hS) rfl ?_
        refine r_lload5 (pc2 := 94) dX7_weigh_92 rfl ?_
        refine r_last (pc2 := 95) dX7_weigh_94 rfl (hK_275 hS) (by decide) ((M.2.1 270 7)).toNat (by omega) (by omega) ?_
        refine r_aload0 (pc2 := 96) dX7_weigh_95 rfl ?_
        refine r_dup (pc2 := 97) dX7_weigh_96 rfl rfl ?_
        refine r_getI (z := (M.2.1 270 7)) (pc2 := 100) dX7_weigh_97 rfl (Or.inl fX7_38) (hK_270 hS) rfl ?_
        refine r_iconst (pc2 := 101) dX7_weigh_100 rfl ?_
        refine r_iadd (c := ((M.2.1 270 7) + 1)) (pc2 := 102) dX7_weigh_101 rfl rfl ?_
        refine r_putI (z := ((M.2.1 270 7) + 1)) (pc2 := 105) dX7_weigh_102 rfl fX7_38 (w7_7 _) (hK_270 hS) (by decide) ?_
        refine r_ret dX7_weigh_105 rfl ?_
        exact absurd b_15 (by omega)
    · refine r_aload1 (pc2 := 19) dX7_weigh_18 rfl ?_
      refine r_lload5 (pc2 := 21) dX7_weigh_19 rfl ?_
      refine r_aload0 (pc2 := 22) dX7_weigh_21 rfl ?_
      refine r_getR (pc2 := 25) dX7_weigh_22 rfl fX7_11 (hK_270 hS) (hR_270_0 hS) ?_
      refine r_iload7 (pc2 := 27) dX7_weigh_25 rfl ?_
      refine r_iald (z := ((ho i : Nat) : Int)) (pc2 := 28) dX7_weigh_27 rfl (hK_271 hS) i rfl (by omega) hi1 ?_
      refine r_lload3 (pc2 := 29) dX7_weigh_28 rfl ?_
      refine r_cv3 (pc2 := 32) dX7_weigh_29 rfl vX7_58 (hKb hS hb_b) (by decide) (CS_drop (d := d) (hC0.fl hb_b hfr) hS hb_b hD (hh i) hk hE hst) ?_
      rintro _ M8 ⟨rfl, a2, h8, hE8⟩
      have hf8 : frL b M0 M8 := hfr.tr (by rw [h8]; exact frL.J hb_b)
      have e8 : M8.2.1 = M.2.1 := by rw [h8]; rfl
      have ea8 : M8.2.2 b 12 = a2 := by rw [h8]; exact pJ_at
      have hL8 : CL D ix M8 S := by rw [h8]; exact hL.J hb_b
      have hi8 : M8.2.1 272 i = hw i := by rw [e8]; exact hi2
      show Go (Ct (d + 3)) _ yX7_weigh cX7_weigh none 0 0 32 [some (.ref 270), some (.ref (b)), some (.int (iI nu)), some (.long (u)), none, some (.long (v)), none, some (.int (iI ((i : Nat) : Int)))] [.int (iI (bH D st sh (ho i)).1)] M8
      refine r_aload0 (pc2 := 33) dX7_weigh_32 rfl ?_
      refine r_getR (pc2 := 36) dX7_weigh_33 rfl fX7_15 (hK_270 (hf8.1.ok hS0)) (hR_270_1 (hf8.1.ok hS0)) ?_
      refine r_iload7 (pc2 := 38) dX7_weigh_36 rfl ?_
      refine r_iald (z := (hw i)) (pc2 := 39) dX7_weigh_38 rfl (hK_272 (hf8.1.ok hS0)) i rfl (by omega) hi8 ?_
      refine r_iceq (tgt := 43) (pc2 := 42) dX7_weigh_39 rfl (by decide) ⟨by omega, by omega⟩ ⟨by omega, by omega⟩ (fun b_39 => ?_) (fun b_39 => ?_)
      · refine r_aload1 (pc2 := 44) dX7_weigh_43 rfl ?_
        refine r_getJ (z := a2) (pc2 := 47) dX7_weigh_44 rfl fX7_62 (hKb (hf8.1.ok hS0) hb_b) ea8 ?_
        refine r_lstore5 (pc2 := 49) dX7_weigh_47 rfl rfl ?_
        refine r_iinc7 (z := ((i + 1 : Nat) : Int)) (pc2 := 52) dX7_weigh_49 rfl (by omega) rfl ?_
        refine r_goto (tgt := 9) dX7_weigh_52 (by decide) ?_
        rw [if_pos b_39] at hR
        exact ih (i + 1) _ a2 M8 (by omega) hE8 hd1.1 hf8 hL8 hR
      · refine r_ret dX7_weigh_42 rfl ?_
        rw [if_neg b_39] at hR
        exact hQ1 M8 hf8 hR.symm hL8
set_option maxHeartbeats 4000000 in
theorem c_X7_weigh {d : Nat} {M : pM} {b n : Nat} {u v : Int64} {st nu : Int} {D : bD} {ix ho : Nat → Nat} {hw s : Nat → Int} {S : sS} (hS : sOk M.1) (hb_b : isB b) (hC : CS M b D ix) (hD : bOk D) (hst : stk D.1.1 (bT D) ix st u) (hg : sgC M n ho hw) (hh : ∀ i, ho i < 4) (hL : CL D ix M S) (hS16 : S.1 ≤ 16) (hv : M.2.2 b 11 = v) (hE : BE D.1.1 ix v s) (hs : bK D s) : Ct (d + 4) 0 0 yX7_weigh [.ref 270, .ref (b), .int (iI nu), .long (u)] M (fun v M2 => v = none ∧ frL b M M2 ∧ CL D ix M2 (sus1 D ho hw n s st nu S)) := by
  refine ct_in (d := (d + 3)) kX7_weigh rfl (by decide) (Nat.le_of_ble_eq_true rfl) (by decide) ?_
  show Go (Ct (d + 3)) _ yX7_weigh cX7_weigh none 0 0 0 [some (.ref 270), some (.ref (b)), some (.int (iI nu)), some (.long (u)), none, none, none, none] [] M
  refine r_aload1 (pc2 := 1) dX7_weigh_0 rfl ?_
  refine r_getJ (z := v) (pc2 := 4) dX7_weigh_1 rfl fX7_54 (hKb hS hb_b) hv ?_
  refine r_lstore5 (pc2 := 6) dX7_weigh_4 rfl rfl ?_
  refine r_iconst (pc2 := 7) dX7_weigh_6 rfl ?_
  refine r_istore7 (pc2 := 9) dX7_weigh_7 rfl rfl ?_
  refine lp_X7_weigh (d := d) (R := wg D st ho hw n 0 s) (hw := hw) M hS hb_b hC hD hst hg hh hL hS16 (fun M2 hf hR hL2 => ⟨rfl, hf, ?_⟩) (fun M2 t hf hR hL2 => ⟨rfl, hf, ?_⟩) n 0 s v M (by omega) hE hs frL.rf hL rfl
  · rw [sus1, hR]; exact hL2
  · rw [sus1, hR]; exact hL2
/-- the bits of the TRAINS of the GATES below x -/
def knB (pc tr : Nat → Int) (ix : Nat → Nat) (x : Nat) (v : Int64) : Prop := ∀ j, j < 64 → (bl v j = true ↔ ∃ q g, q < x ∧ g < 156 ∧ pc q = 4 ∧ pc g = 4 ∧ tr g = tr q ∧ j = 4 * ix g)
theorem knB_0 {pc tr : Nat → Int} {ix : Nat → Nat} : knB pc tr ix 0 0 := fun j _ => by rw [bl_0]; constructor; (intro h; cases h); (rintro ⟨q, g, hq, -⟩; omega)
theorem knB_and {pc tr : Nat → Int} {ix : Nat → Nat} {x : Nat} {kn F : Int64} (hx : Ixw pc ix) (hp : x < 156) (h4 : pc x = 4) (h : knB pc tr ix x kn) (hF : ∀ j, j < 64 → (bl F j = true ↔ ∃ q, q < 156 ∧ pc q = 4 ∧ tr q = tr x ∧ j = 4 * ix q)) : (kn &&& F) = 0 ↔ fstG pc tr x := by
  constructor
  · intro e
    refine ⟨h4, fun q hq q2 => ?_⟩
    have hb := hx.1 x hp
    have : bl (kn &&& F) (4 * ix x) = true := by
      rw [bl_and, (h _ (by omega)).mpr ⟨q, x, hq, hp, q2.1, h4, q2.2.symm, rfl⟩, (hF _ (by omega)).mpr ⟨x, hp, h4, rfl, rfl⟩]; rfl
    rw [e, bl_0] at this
    cases this
  · intro hf
    refine bl_ext (fun j hj => ?_)
    rw [bl_0, bl_and]
    by_cases q1 : bl kn j = true
    · by_cases q2 : bl F j = true
      · obtain ⟨q, g, a1, a2, a3, a4, a5, a6⟩ := (h j hj).mp q1
        obtain ⟨g2, b1, b2, b3, b4⟩ := (hF j hj).mp q2
        have e : g = g2 := hx.2 g g2 a2 b1 (by unfold mvg; omega) (by unfold mvg; omega) (by omega)
        subst e
        exact absurd ⟨a3, a5.symm.trans b3⟩ (hf.2 q a1)
      · rw [Bool.not_eq_true] at q2; rw [q2, Bool.and_false]
    · rw [Bool.not_eq_true] at q1; rw [q1, Bool.false_and]
theorem knB_yes {pc tr : Nat → Int} {ix : Nat → Nat} {x : Nat} {kn F : Int64} (h4 : pc x = 4) (h : knB pc tr ix x kn) (hF : ∀ j, j < 64 → (bl F j = true ↔ ∃ q, q < 156 ∧ pc q = 4 ∧ tr q = tr x ∧ j = 4 * ix q)) : knB pc tr ix (x + 1) (kn ||| F) := by
  intro j hj
  rw [bl_or, Bool.or_eq_true]
  constructor
  · rintro (q | q)
    · obtain ⟨q, g, a1, a2⟩ := (h j hj).mp q
      exact ⟨q, g, by omega, a2⟩
    · obtain ⟨g, b1, b2, b3, b4⟩ := (hF j hj).mp q
      exact ⟨x, g, by omega, b1, h4, b2, b3, b4⟩
  · rintro ⟨q, g, a1, a2, a3, a4, a5, a6⟩
    by_cases e : q = x
    · subst e; exact Or.inr ((hF j hj).mpr ⟨g, a2, a4, a5, a6⟩)
    · exact Or.inl ((h j hj).mpr ⟨q, g, by omega, a2, a3, a4, a5, a6⟩)
theorem knB_no {pc tr : Nat → Int} {ix : Nat → Nat} {x : Nat} {kn : Int64} (hn : ¬ fstG pc tr x) (h : knB pc tr ix x kn) : knB pc tr ix (x + 1) kn := by
  intro j hj
  rw [h j hj]
  constructor
  · rintro ⟨q, g, a1, a2⟩; exact ⟨q, g, by omega, a2⟩
  · rintro ⟨q, g, a1, a2, a3, a4, a5, a6⟩
    by_cases e : q = x
    · subst e
      have : ∃ q2, q2 < q ∧ pc q2 = 4 ∧ tr q2 = tr q := Classical.byContradiction (fun c => hn ⟨a3, fun q2 h1 h2 => c ⟨q2, h1, h2⟩⟩)
      obtain ⟨q2, c1, c2, c3⟩ := this
      exact ⟨q2, g, c1, a2, c2, a4, a5.trans c3.symm, a6⟩
    · exact ⟨q, g, by omega, a2, a3, a4, a5, a6⟩
set_option maxHeartbeats 4000000 in
theorem c_X0_isFirstGate {d : Nat} {M : pM} {b x : Nat} {kn : Int64} {D : bD} {ix : Nat → Nat} (hS : sOk M.1) (hb_b : isB b) (hC : CS M b D ix) (hx : x < 156) (hpc : 0 ≤ D.1.1 x ∧ D.1.1 x ≤ 9) (hk : knB D.1.1 (bT D) ix x kn) : Ct (d + 1) 0 0 yX0_isFirstGate [.ref (b), .int (iI ((x : Nat) : Int)), .long (kn)] M (fun v M2 => M2 = M ∧ (fstG D.1.1 (bT D) x ∧ v = some (.int (iI 1)) ∨ ¬ fstG D.1.1 (bT D) x ∧ v = some (.int (iI 0)))) := by
  refine ct_in (d := d) kX0_isFirstGate rfl (by decide) (Nat.le_of_ble_eq_true rfl) (by decide) ?_
  show Go (Ct d) _ yX0_isFirstGate cX0_isFirstGate (some .boolean) 0 0 0 [some (.ref (b)), some (.int (iI ((x : Nat) : Int))), some (.long (kn)), none] [] M
  have hpx : M.2.1 (b + 1) x = D.1.1 x := hC.1.1 x hx
  refine r_aload0 (pc2 := 1) dX0_isFirstGate_0 rfl ?_
  refine r_getR (pc2 := 4) dX0_isFirstGate_1 rfl fX0_9 (hKb hS hb_b) (hRb0 hS hb_b) ?_
  refine r_iload1 (pc2 := 5) dX0_isFirstGate_4 rfl ?_
  refine r_iald (z := (D.1.1 x)) (pc2 := 6) dX0_isFirstGate_5 rfl (hKb1 hS hb_b) x rfl (by omega) hpx ?_
  refine r_iconst (pc2 := 7) dX0_isFirstGate_6 rfl ?_
  refine r_icne (tgt := 27) (pc2 := 10) dX0_isFirstGate_7 rfl (by decide) ⟨by omega, by omega⟩ ⟨by omega, by omega⟩ (fun b_7 => ?_) (fun b_7 => ?_)
  · refine r_iconst (pc2 := 28) dX0_isFirstGate_27 rfl ?_
    refine r_iretz dX0_isFirstGate_28 rfl (by omega) ?_
    exact ⟨rfl, Or.inr ⟨fun q => b_7 q.1, rfl⟩⟩
  · refine r_lload2 (pc2 := 11) dX0_isFirstGate_10 rfl ?_
    refine r_aload0 (pc2 := 12) dX0_isFirstGate_11 rfl ?_
    refine r_getR (pc2 := 15) dX0_isFirstGate_12 rfl fX0_24 (hKb hS hb_b) (hRb4 hS hb_b) ?_
    refine r_iload1 (pc2 := 16) dX0_isFirstGate_15 rfl ?_
    refine r_lald (z := (M.2.2 (b + 5) x)) (pc2 := 17) dX0_isFirstGate_16 rfl (hKb5 hS hb_b) x rfl (by omega) rfl ?_
    refine r_land (pc2 := 18) dX0_isFirstGate_17 rfl ?_
    refine r_lconst (pc2 := 19) dX0_isFirstGate_18 rfl ?_
    show Go (Ct d) _ yX0_isFirstGate cX0_isFirstGate (some .boolean) 0 0 19 [some (.ref (b)), some (.int (iI ((x : Nat) : Int))), some (.long (kn)), none] [.long (0), .long ((kn) &&& ((M.2.2 (b + 5) x)))] M
    refine r_lcmp (pc2 := 20) dX0_isFirstGate_19 rfl ?_
    have lr19 := lcm_r ((kn) &&& ((M.2.2 (b + 5) x))) (0)
    rw [lg_iI]
    refine r_ifne (tgt := 27) (pc2 := 23) dX0_isFirstGate_20 rfl (by decide) ⟨by omega, by omega⟩ (fun b_20 => ?_) (fun b_20 => ?_)
    · refine r_iconst (pc2 := 28) dX0_isFirstGate_27 rfl ?_
      refine r_iretz dX0_isFirstGate_28 rfl (by omega) ?_
      exact ⟨rfl, Or.inr ⟨fun q => b_20 (lr19.2.2.mpr ((knB_and hC.1.2.2.2.2.2 hx (by omega) hk (hC.1.2.2.2.2.1 x hx (by omega))).mpr q)), rfl⟩⟩
    · refine r_iconst (pc2 := 24) dX0_isFirstGate_23 rfl ?_
      refine r_goto (tgt := 28) dX0_isFirstGate_24 (by decide) ?_
      refine r_iretz dX0_isFirstGate_28 rfl (by omega) ?_
      exact ⟨rfl, Or.inl ⟨(knB_and hC.1.2.2.2.2.2 hx (by omega) hk (hC.1.2.2.2.2.1 x hx (by omega))).mp (lr19.2.2.mp (by omega)), rfl⟩⟩
set_option maxHeartbeats 4000000 in
theorem lp_X7_list {d : Nat} {Q : pQ} {b n : Nat} {v : Int64} {sf : Int} {D : bD} {ix ho : Nat → Nat} {hw s : Nat → Int} (M0 : pM) (hS0 : sOk M0.1) (hb_b : isB b) (hC0 : CS M0 b D ix) (hD : bOk D) (hg0 : sgC M0 n ho hw) (hh : ∀ i, ho i < 4) (hv : M0.2.2 b 11 = v) (hE : BE D.1.1 ix v s) (hs : bK D s)
    (hQ : ∀ M2, frL b M0 M2 → CL D ix M2 (susN D ho hw n s 156) → Q none M2) :
    ∀ (m x : Nat) (kn : Int64) (M : pM), x + m = 156 → frL b M0 M → CL D ix M (susN D ho hw n s x) → knB D.1.1 (bT D) ix x kn →
      Go (Ct (d + 4)) Q yX7_list cX7_list none 0 0 31 [some (.ref 270), some (.ref b), some (.int (iI sf)), some (.long kn), none, some (.int (iI ((x : Nat) : Int)))] [] M := by
  intro m
  induction m with
  | zero =>
    intro x kn M hm hfr hL hkn
    obtain rfl : x = 156 := by omega
    refine r_iload5 (pc2 := 33) dX7_list_31 rfl ?_
    refine r_sipush (pc2 := 36) dX7_list_33 rfl (by decide) (by decide) ?_
    refine r_icge (tgt := 81) (pc2 := 39) dX7_list_36 rfl (by decide) ⟨by omega, by omega⟩ ⟨by omega, by omega⟩ (fun _ => ?_) (fun h9 => absurd h9 (by decide))
    refine r_ret dX7_list_81 rfl ?_
    exact hQ M hfr hL
  | succ m ih =>
    intro x kn M hm hfr hL hkn
    have hS := hfr.1.ok hS0
    have hC := hC0.fl hb_b hfr
    have hx : x < 156 := by omega
    have hle := susN_le (D := D) (ho := ho) (hw := hw) (n := n) (s := s) x
    have hF := hC.1.2.2.2.2.1 x hx
    have ev : M.2.2 b 11 = v := (hfr.2.1.2 11 (by decide)).trans hv
    refine r_iload5 (pc2 := 33) dX7_list_31 rfl ?_
    refine r_sipush (pc2 := 36) dX7_list_33 rfl (by decide) (by decide) ?_
    refine r_icge (tgt := 81) (pc2 := 39) dX7_list_36 rfl (by decide) ⟨by omega, by omega⟩ ⟨by omega, by omega⟩ (fun b_36 => ?_) (fun b_36 => ?_)
    · refine r_ret dX7_list_81 rfl ?_
      exact absurd b_36 (by omega)
    · refine r_aload1 (pc2 := 40) dX7_list_39 rfl ?_
      refine r_iload5 (pc2 := 42) dX7_list_40 rfl ?_
      refine r_lload3 (pc2 := 43) dX7_list_42 rfl ?_
      refine r_cv2 (pc2 := 46) dX7_list_43 rfl vX7_45 (hKb hS hb_b) (by decide) (c_X0_isFirstGate (d := d + 3) hS hb_b hC hx (bK_pc hs x hx) hkn) ?_
      rintro _ M9 ⟨h9, ⟨hf9, rfl⟩ | ⟨hf9, rfl⟩⟩
      · rw [h9]
        show Go (Ct (d + 4)) _ yX7_list cX7_list none 0 0 46 [some (.ref 270), some (.ref (b)), some (.int (iI sf)), some (.long (kn)), none, some (.int (iI ((x : Nat) : Int)))] [.int (iI 1)] M
        refine r_ifeq (tgt := 75) (pc2 := 49) dX7_list_46 rfl (by decide) ⟨by omega, by omega⟩ (fun h9 => absurd h9 (by decide)) (fun _ => ?_)
        refine r_lload3 (pc2 := 50) dX7_list_49 rfl ?_
        refine r_aload1 (pc2 := 51) dX7_list_50 rfl ?_
        refine r_getR (pc2 := 54) dX7_list_51 rfl fX7_51 (hKb hS hb_b) (hRb4 hS hb_b) ?_
        refine r_iload5 (pc2 := 56) dX7_list_54 rfl ?_
        refine r_lald (z := (M.2.2 (b + 5) x)) (pc2 := 57) dX7_list_56 rfl (hKb5 hS hb_b) x rfl (by omega) rfl ?_
        refine r_lor (pc2 := 58) dX7_list_57 rfl ?_
        refine r_lstore3 (pc2 := 59) dX7_list_58 rfl rfl ?_
        refine r_aload0 (pc2 := 60) dX7_list_59 rfl ?_
        refine r_aload1 (pc2 := 61) dX7_list_60 rfl ?_
        refine r_iconst (pc2 := 62) dX7_list_61 rfl ?_
        refine r_iload5 (pc2 := 64) dX7_list_62 rfl ?_
        refine r_iadd (c := (1 + (x : Int))) (pc2 := 65) dX7_list_64 rfl rfl ?_
        refine r_aload1 (pc2 := 66) dX7_list_65 rfl ?_
        refine r_getR (pc2 := 69) dX7_list_66 rfl fX7_51 (hKb hS hb_b) (hRb4 hS hb_b) ?_
        refine r_iload5 (pc2 := 71) dX7_list_69 rfl ?_
        refine r_lald (z := (M.2.2 (b + 5) x)) (pc2 := 72) dX7_list_71 rfl (hKb5 hS hb_b) x rfl (by omega) rfl ?_
        refine r_cv3 (pc2 := 75) dX7_list_72 rfl vX7_41 (hK_270 hS) (by decide) (c_X7_weigh (d := d) (n := n) (ho := ho) (hw := hw) (s := s) (st := bT D x) (S := susN D ho hw n s x) hS hb_b hC hD (hF hf9.1) (hg0.fl hb_b hfr) hh hL (by have := mvc_s hf9.1; have := mvc_mono (pc := D.1.1) (show x + 1 ≤ 156 by omega); have := hD.2.2; omega) ev hE hs) ?_
        rintro _ M8 ⟨rfl, f8, hL8⟩
        show Go (Ct (d + 4)) _ yX7_list cX7_list none 0 0 75 [some (.ref 270), some (.ref (b)), some (.int (iI sf)), some (.long ((kn) ||| ((M.2.2 (b + 5) x)))), none, some (.int (iI ((x : Nat) : Int)))] [] M8
        refine r_iinc5 (z := ((x + 1 : Nat) : Int)) (pc2 := 78) dX7_list_75 rfl (by omega) rfl ?_
        refine r_goto (tgt := 31) dX7_list_78 (by decide) ?_
        exact ih (x + 1) _ M8 (by omega) (hfr.tr f8) (by rw [susN_yes hf9]; exact hL8) (knB_yes hf9.1 hkn (hF hf9.1))
      · rw [h9]
        show Go (Ct (d + 4)) _ yX7_list cX7_list none 0 0 46 [some (.ref 270), some (.ref (b)), some (.int (iI sf)), some (.long (kn)), none, some (.int (iI ((x : Nat) : Int)))] [.int (iI 0)] M
        refine r_ifeq (tgt := 75) (pc2 := 49) dX7_list_46 rfl (by decide) ⟨by omega, by omega⟩ (fun _ => ?_) (fun h9 => absurd h9 (by decide))
        refine r_iinc5 (z := ((x + 1 : Nat) : Int)) (pc2 := 78) dX7_list_75 rfl (by omega) rfl ?_
        refine r_goto (tgt := 31) dX7_list_78 (by decide) ?_
        exact ih (x + 1) kn M (by omega) hfr (by rw [susN_no hf9]; exact hL) (knB_no hf9 hkn)

set_option maxHeartbeats 4000000 in
theorem c_X7_list {d : Nat} {M : pM} {b n : Nat} {v : Int64} {sf : Int} {D : bD} {ix ho : Nat → Nat} {hw s : Nat → Int} (hS : sOk M.1) (hb_b : isB b) (hC : CS M b D ix) (hD : bOk D) (hg : sgC M n ho hw) (hh : ∀ i, ho i < 4) (hv : M.2.2 b 11 = v) (hE : BE D.1.1 ix v s) (hs : bK D s) (hsf : inR sf) (hls : inR (M.2.1 270 8)) : Ct (d + 5) 0 0 yX7_list [.ref 270, .ref (b), .int (iI sf)] M (fun v M2 => (M.2.1 270 8 = sf ∧ M2 = M) ∨ (¬ M.2.1 270 8 = sf ∧ ∃ M1, fr [270] M M1 ∧ (∀ k, k ≠ 7 → k ≠ 8 → M1.2.1 270 k = M.2.1 270 k) ∧ frL b M1 M2 ∧ M2.2.1 270 8 = sf ∧ CL D ix M2 (susN D ho hw n s 156))) := by
  refine ct_in (d := (d + 4)) kX7_list rfl (by decide) (Nat.le_of_ble_eq_true rfl) (by decide) ?_
  show Go (Ct (d + 4)) _ yX7_list cX7_list none 0 0 0 [some (.ref 270), some (.ref (b)), some (.int (iI sf)), none, none, none] [] M
  obtain ⟨sf1, sf2⟩ := hsf
  obtain ⟨ls1, ls2⟩ := hls
  refine r_aload0 (pc2 := 1) dX7_list_0 rfl ?_
  refine r_getI (z := (M.2.1 270 8)) (pc2 := 4) dX7_list_1 rfl (Or.inl fX7_31) (hK_270 hS) rfl ?_
  refine r_iload2 (pc2 := 5) dX7_list_4 rfl ?_
  refine r_icne (tgt := 9) (pc2 := 8) dX7_list_5 rfl (by decide) ⟨by omega, by omega⟩ ⟨by omega, by omega⟩ (fun b_5 => ?_) (fun b_5 => ?_)
  · refine r_aload0 (pc2 := 10) dX7_list_9 rfl ?_
    refine r_iload2 (pc2 := 11) dX7_list_10 rfl ?_
    refine r_putI (z := sf) (pc2 := 14) dX7_list_11 rfl fX7_31 (w7_8 _) (hK_270 hS) (by decide) ?_
    refine r_aload0 (pc2 := 15) dX7_list_14 rfl ?_
    refine r_iconst (pc2 := 16) dX7_list_15 rfl ?_
    refine r_putI (z := 0) (pc2 := 19) dX7_list_16 rfl fX7_38 (w7_7 _) (hK_270 hS) (by decide) ?_
    obtain ⟨M1, h1⟩ : ∃ M1, M1 = (pI (pI M 270 8 sf) 270 7 0) := ⟨_, rfl⟩
    rw [← h1]
    have e1 : M1.2.1 270 = va_up (va_up (M.2.1 270) 8 sf) 7 0 := by rw [h1]; rfl
    have f1 : fr [270] M M1 := by rw [h1]; exact (fr.rf.I (by decide)).I (by decide)
    have hS1 := f1.ok hS
    have hd := isB_d hb_b
    have hC1 : CS M1 b D ix := hC.of (fun k k1 k2 => f1.2 _ (fun q => isB_270 hb_b k2 (by revert q; simp only [List.mem_cons, List.not_mem_nil, or_false]; omega)))
    have hg1 : sgC M1 n ho hw := ⟨by rw [e1]; exact hg.1, hg.2.1, fun i hi => by rw [f1.i (by decide), f1.i (by decide)]; exact hg.2.2 i hi⟩
    have hv1 : M1.2.2 b 11 = v := by rw [h1]; exact hv
    have hL1 : CL D ix M1 (0, fun _ => (0, 0, fun _ => 0)) := ⟨by rw [e1]; rfl, fun i hi => absurd hi (by show ¬ i < 0; omega)⟩
    refine r_aload0 (pc2 := 20) dX7_list_19 rfl ?_
    refine r_aload1 (pc2 := 21) dX7_list_20 rfl ?_
    refine r_iconst (pc2 := 22) dX7_list_21 rfl ?_
    refine r_lconst (pc2 := 23) dX7_list_22 rfl ?_
    refine r_cv3 (pc2 := 26) dX7_list_23 rfl vX7_41 (hK_270 hS1) (by decide) (c_X7_weigh (d := d) (n := n) (ho := ho) (hw := hw) (s := s) (st := -2) (S := (0, fun _ => (0, 0, fun _ => 0))) (b := b) hS1 hb_b hC1 hD (stk0 (fun q _ => (bT_r D q).1)) hg1 hh hL1 (by show 0 ≤ 16; omega) hv1 hE hs) ?_
    rintro _ M8 ⟨rfl, f8, hL8⟩
    have hv8 : M8.2.2 b 11 = v := (f8.2.1.2 11 (by decide)).trans hv1
    show Go (Ct (d + 4)) _ yX7_list cX7_list none 0 0 26 [some (.ref 270), some (.ref (b)), some (.int (iI sf)), none, none, none] [] M8
    refine r_lconst (pc2 := 27) dX7_list_26 rfl ?_
    refine r_lstore3 (pc2 := 28) dX7_list_27 rfl rfl ?_
    refine r_iconst (pc2 := 29) dX7_list_28 rfl ?_
    refine r_istore5 (pc2 := 31) dX7_list_29 rfl rfl ?_
    refine lp_X7_list (d := d) M1 hS1 hb_b hC1 hD hg1 hh hv1 hE hs (fun M2 hf hL2 => Or.inr ⟨by omega, M1, f1, fun k k7 k8 => by rw [e1, up_ne k7, up_ne k8], hf, by rw [hf.2.2 8 (by decide), e1, up_ne (by decide), up_at], hL2⟩) 156 0 0 M8 (by omega) f8 hL8 knB_0
  · refine r_ret dX7_list_8 rfl ?_
    exact Or.inl ⟨by omega, rfl⟩
