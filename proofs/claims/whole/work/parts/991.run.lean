/-! run as a whole, both sides -/
set_option maxHeartbeats 4000000 in
theorem c_X11_runN {d : Nat} {M : pM} {z n : Int} (hS : sOk M.1) (hz : ¬ ((0 ≤ z ∧ z < 4) ∧ 1 ≤ n ∧ n ≤ 200)) (hzr : inR z) (hnr : inR n) : Ct (d + 2) 0 0 yX11_run [.ref 2, .int (iI z), .int (iI n)] M (fun v M2 => v = some (.int (iI (-1))) ∧ M2 = M) := by
  refine ct_in (d := (d + 1)) kX11_run rfl (by decide) (Nat.le_of_ble_eq_true rfl) (by decide) ?_
  show Go (Ct (d + 1)) _ yX11_run cX11_run (some .int) 0 0 0 [some (.ref 2), some (.int (iI z)), some (.int (iI n)), none, none, none] [] M
  obtain ⟨zr1, zr2⟩ := hzr
  obtain ⟨nr1, nr2⟩ := hnr
  refine r_iload1 (pc2 := 1) dX11_run_0 rfl ?_
  refine r_cs1 (pc2 := 4) dX11_run_1 rfl sX11_155 (by decide) (c_X11_isHopper (d := d) (h := z) ⟨by omega, by omega⟩) ?_
  by_cases hh : 0 ≤ z ∧ z < 4
  · rintro _ M9 ⟨rfl, h9⟩
    rw [h9, if_pos hh]
    show Go (Ct (d + 1)) _ yX11_run cX11_run (some .int) 0 0 4 [some (.ref 2), some (.int (iI z)), some (.int (iI n)), none, none, none] [.int (iI 1)] M
    refine r_ifeq (tgt := 19) (pc2 := 7) dX11_run_4 rfl (by decide) ⟨by omega, by omega⟩ (fun h9 => absurd h9 (by decide)) (fun _ => ?_)
    refine r_iload2 (pc2 := 8) dX11_run_7 rfl ?_
    refine r_iconst (pc2 := 9) dX11_run_8 rfl ?_
    refine r_iclt (tgt := 19) (pc2 := 12) dX11_run_9 rfl (by decide) ⟨by omega, by omega⟩ ⟨by omega, by omega⟩ (fun b_9 => ?_) (fun b_9 => ?_)
    · refine r_iconst (pc2 := 20) dX11_run_19 rfl ?_
      refine r_ireti dX11_run_20 rfl ?_
      exact ⟨rfl, rfl⟩
    · refine r_iload2 (pc2 := 13) dX11_run_12 rfl ?_
      refine r_sipush (pc2 := 16) dX11_run_13 rfl (by decide) (by decide) ?_
      refine r_icle (tgt := 21) (pc2 := 19) dX11_run_16 rfl (by decide) ⟨by omega, by omega⟩ ⟨by omega, by omega⟩ (fun b_16 => ?_) (fun b_16 => ?_)
      · exact absurd ⟨hh, by omega, by omega⟩ hz
      · refine r_iconst (pc2 := 20) dX11_run_19 rfl ?_
        refine r_ireti dX11_run_20 rfl ?_
        exact ⟨rfl, rfl⟩
  · rintro _ M9 ⟨rfl, h9⟩
    rw [h9, if_neg hh]
    show Go (Ct (d + 1)) _ yX11_run cX11_run (some .int) 0 0 4 [some (.ref 2), some (.int (iI z)), some (.int (iI n)), none, none, none] [.int (iI 0)] M
    refine r_ifeq (tgt := 19) (pc2 := 7) dX11_run_4 rfl (by decide) ⟨by omega, by omega⟩ (fun _ => ?_) (fun h9 => absurd h9 (by decide))
    refine r_iconst (pc2 := 20) dX11_run_19 rfl ?_
    refine r_ireti dX11_run_20 rfl ?_
    exact ⟨rfl, rfl⟩
set_option maxHeartbeats 4000000 in
theorem c_X11_runY {d : Nat} {M : pM} {h N : Nat} {x : rnS} {ix : Nat → Nat} (hS : sOk M.1) (hC : CF M 19 x.1 ix) (hx : rnOk x) (hh : h < 4) (hL : CLg M x) (hn : x.2.2 ≤ 1999999000) (hN : 1 ≤ N ∧ N ≤ 200) : Ct (d + 5) 0 0 yX11_run [.ref 2, .int (iI ((h : Nat) : Int)), .int (iI ((N : Nat) : Int))] M (fun v M2 => RCq (rnL N h x) true ix M v M2) := by
  refine ct_in (d := (d + 4)) kX11_run rfl (by decide) (Nat.le_of_ble_eq_true rfl) (by decide) ?_
  show Go (Ct (d + 4)) _ yX11_run cX11_run (some .int) 0 0 0 [some (.ref 2), some (.int (iI ((h : Nat) : Int))), some (.int (iI ((N : Nat) : Int))), none, none, none] [] M
  refine r_iload1 (pc2 := 1) dX11_run_0 rfl ?_
  refine r_cs1 (pc2 := 4) dX11_run_1 rfl sX11_155 (by decide) (c_X11_isHopper (d := d + 3) (h := ((h : Nat) : Int)) ⟨by omega, by omega⟩) ?_
  rintro _ M9 ⟨rfl, h9⟩
  rw [h9, if_pos (show 0 ≤ ((h : Nat) : Int) ∧ ((h : Nat) : Int) < 4 by omega)]
  show Go (Ct (d + 4)) _ yX11_run cX11_run (some .int) 0 0 4 [some (.ref 2), some (.int (iI ((h : Nat) : Int))), some (.int (iI ((N : Nat) : Int))), none, none, none] [.int (iI 1)] M
  refine r_ifeq (tgt := 19) (pc2 := 7) dX11_run_4 rfl (by decide) ⟨by omega, by omega⟩ (fun h9 => absurd h9 (by decide)) (fun _ => ?_)
  refine r_iload2 (pc2 := 8) dX11_run_7 rfl ?_
  refine r_iconst (pc2 := 9) dX11_run_8 rfl ?_
  refine r_iclt (tgt := 19) (pc2 := 12) dX11_run_9 rfl (by decide) ⟨by omega, by omega⟩ ⟨by omega, by omega⟩ (fun b_9 => ?_) (fun b_9 => ?_)
  · refine r_iconst (pc2 := 20) dX11_run_19 rfl ?_
    refine r_ireti dX11_run_20 rfl ?_
    exact absurd b_9 (by omega)
  · refine r_iload2 (pc2 := 13) dX11_run_12 rfl ?_
    refine r_sipush (pc2 := 16) dX11_run_13 rfl (by decide) (by decide) ?_
    refine r_icle (tgt := 21) (pc2 := 19) dX11_run_16 rfl (by decide) ⟨by omega, by omega⟩ ⟨by omega, by omega⟩ (fun b_16 => ?_) (fun b_16 => ?_)
    · refine r_iload1 (pc2 := 22) dX11_run_21 rfl ?_
      refine r_istore3 (pc2 := 23) dX11_run_22 rfl rfl ?_
      refine r_iconst (pc2 := 24) dX11_run_23 rfl ?_
      refine r_istore4 (pc2 := 26) dX11_run_24 rfl rfl ?_
      refine lp_X11_run (d := d) (l5 := none) M (by omega) N 0 h x M _ (by omega) hh hx hS hC hL (by omega) frR.rf (Or.inl ⟨rfl, rfl⟩) (fun v M2 q1 q2 q3 => q1)
    · refine r_iconst (pc2 := 20) dX11_run_19 rfl ?_
      refine r_ireti dX11_run_20 rfl ?_
      exact absurd b_16 (by omega)
set_option maxHeartbeats 4000000 in
theorem c_X12_runN {d : Nat} {M : pM} {z n : Int} (hS : sOk M.1) (hz : ¬ ((0 ≤ z ∧ z < 4) ∧ 1 ≤ n ∧ n ≤ 200)) (hzr : inR z) (hnr : inR n) : Ct (d + 2) 0 0 yX12_run [.ref 317, .int (iI z), .int (iI n)] M (fun v M2 => v = some (.int (iI (-1))) ∧ M2 = pI M 317 0 0) := by
  refine ct_in (d := (d + 1)) kX12_run rfl (by decide) (Nat.le_of_ble_eq_true rfl) (by decide) ?_
  show Go (Ct (d + 1)) _ yX12_run cX12_run (some .int) 0 0 0 [some (.ref 317), some (.int (iI z)), some (.int (iI n)), none, none, none] [] M
  obtain ⟨zr1, zr2⟩ := hzr
  obtain ⟨nr1, nr2⟩ := hnr
  refine r_aload0 (pc2 := 1) dX12_run_0 rfl ?_
  refine r_iconst (pc2 := 2) dX12_run_1 rfl ?_
  refine r_putI (z := 0) (pc2 := 5) dX12_run_2 rfl fX12_1 (w12_0 _) (hK_317 hS) (by decide) ?_
  refine r_iload1 (pc2 := 6) dX12_run_5 rfl ?_
  refine r_cs1 (pc2 := 9) dX12_run_6 rfl sX12_306 (by decide) (c_X12_isHopper (d := d) (h := z) ⟨by omega, by omega⟩) ?_
  by_cases hh : 0 ≤ z ∧ z < 4
  · rintro _ M9 ⟨rfl, h9⟩
    rw [h9, if_pos hh]
    show Go (Ct (d + 1)) _ yX12_run cX12_run (some .int) 0 0 9 [some (.ref 317), some (.int (iI z)), some (.int (iI n)), none, none, none] [.int (iI 1)] (pI M 317 0 0)
    refine r_ifeq (tgt := 24) (pc2 := 12) dX12_run_9 rfl (by decide) ⟨by omega, by omega⟩ (fun h9 => absurd h9 (by decide)) (fun _ => ?_)
    refine r_iload2 (pc2 := 13) dX12_run_12 rfl ?_
    refine r_iconst (pc2 := 14) dX12_run_13 rfl ?_
    refine r_iclt (tgt := 24) (pc2 := 17) dX12_run_14 rfl (by decide) ⟨by omega, by omega⟩ ⟨by omega, by omega⟩ (fun b_14 => ?_) (fun b_14 => ?_)
    · refine r_iconst (pc2 := 25) dX12_run_24 rfl ?_
      refine r_ireti dX12_run_25 rfl ?_
      exact ⟨rfl, rfl⟩
    · refine r_iload2 (pc2 := 18) dX12_run_17 rfl ?_
      refine r_sipush (pc2 := 21) dX12_run_18 rfl (by decide) (by decide) ?_
      refine r_icle (tgt := 26) (pc2 := 24) dX12_run_21 rfl (by decide) ⟨by omega, by omega⟩ ⟨by omega, by omega⟩ (fun b_21 => ?_) (fun b_21 => ?_)
      · exact absurd ⟨hh, by omega, by omega⟩ hz
      · refine r_iconst (pc2 := 25) dX12_run_24 rfl ?_
        refine r_ireti dX12_run_25 rfl ?_
        exact ⟨rfl, rfl⟩
  · rintro _ M9 ⟨rfl, h9⟩
    rw [h9, if_neg hh]
    show Go (Ct (d + 1)) _ yX12_run cX12_run (some .int) 0 0 9 [some (.ref 317), some (.int (iI z)), some (.int (iI n)), none, none, none] [.int (iI 0)] (pI M 317 0 0)
    refine r_ifeq (tgt := 24) (pc2 := 12) dX12_run_9 rfl (by decide) ⟨by omega, by omega⟩ (fun _ => ?_) (fun h9 => absurd h9 (by decide))
    refine r_iconst (pc2 := 25) dX12_run_24 rfl ?_
    refine r_ireti dX12_run_25 rfl ?_
    exact ⟨rfl, rfl⟩
theorem MB.st {M : pM} {B : Nat → bS} {h : Nat} {x : rnS} (hB : MB M (va_up B 0 x.1)) (hh : h < 4) : MB (pI M 334 h (x.1.1.2.2.2.2 h - 1)) (va_up B 0 (stD x.1.1 h, x.1.2)) := by
  intro i hi
  have h9 := hB i hi
  by_cases e : i = 0
  · subst e
    rw [up_at] at h9 ⊢
    refine ⟨fun q hq => ?_, fun q hq => ?_, fun q hq => ?_⟩
    · rw [pI_ne (show (328 : Nat) ≠ 334 by decide), pI_ne (show (329 : Nat) ≠ 334 by decide), pI_ne (show (330 : Nat) ≠ 334 by decide)]; exact h9.1 q hq
    · have h8 := h9.2.1 q hq
      show _ = x.1.1.2.1 q ∧ _ = ((x.1.1.2.2.1 q : Nat) : Int) ∧ _ = va_up x.1.1.2.2.2.2 h (x.1.1.2.2.2.2 h - 1) q
      rw [pI_ne (show (333 : Nat) ≠ 334 by decide), pI_ne (show (332 : Nat) ≠ 334 by decide), pI_eq]
      refine ⟨h8.1, h8.2.1, ?_⟩
      rw [show 4 * 0 + q = q by omega] at h8 ⊢
      by_cases e : q = h
      · rw [e, up_at, up_at]
      · rw [up_ne e, up_ne e]; exact h8.2.2
    · rw [pI_ne (by decide)]; exact h9.2.2 q hq
  · rw [up_ne e] at h9 ⊢
    refine ⟨fun q hq => ?_, fun q hq => ?_, fun q hq => ?_⟩
    · rw [pI_ne (show (328 : Nat) ≠ 334 by decide), pI_ne (show (329 : Nat) ≠ 334 by decide), pI_ne (show (330 : Nat) ≠ 334 by decide)]; exact h9.1 q hq
    · rw [pI_ne (show (333 : Nat) ≠ 334 by decide), pI_ne (show (332 : Nat) ≠ 334 by decide), pI_nk (by omega)]; exact h9.2.1 q hq
    · rw [pI_ne (by decide)]; exact h9.2.2 q hq
theorem MB.sh {M M2 : pM} {B : Nat → bS} {X : bS} {s2 : Nat → Int} (hB : MB M (va_up B 0 X)) (hf : fr [330] M M2) (e330 : M2.2.1 330 = sB (M.2.1 330) 156 0 s2) : MB M2 (va_up B 0 (X.1, s2)) := by
  intro i hi
  have h9 := hB i hi
  by_cases e : i = 0
  · subst e
    rw [up_at] at h9 ⊢
    refine ⟨fun q hq => ?_, fun q hq => ?_, fun q hq => ?_⟩
    · rw [hf.i (by decide), hf.i (by decide), e330, sB_in hq]; exact ⟨(h9.1 q hq).1, (h9.1 q hq).2.1, rfl⟩
    · rw [hf.i (by decide), hf.i (by decide), hf.i (by decide)]; exact h9.2.1 q hq
    · rw [hf.i (by decide)]; exact h9.2.2 q hq
  · rw [up_ne e] at h9 ⊢
    refine ⟨fun q hq => ?_, fun q hq => ?_, fun q hq => ?_⟩
    · rw [hf.i (by decide), hf.i (by decide), e330, sB_out (by omega)]; exact h9.1 q hq
    · rw [hf.i (by decide), hf.i (by decide), hf.i (by decide)]; exact h9.2.1 q hq
    · rw [hf.i (by decide)]; exact h9.2.2 q hq
def MLg (M : pM) (x : rnS) : Prop := M.2.1 317 32 = ((x.2.2 : Nat) : Int) ∧ M.2.1 317 31 = ((x.2.2 : Nat) : Int) ∧ ∀ j, j < 100 → M.2.1 337 j = x.2.1 j
def frJ (M M2 : pM) : Prop := fr [317, 330, 334, 335, 336, 337] M M2 ∧ ∀ j, j ≠ 0 → j ≠ 31 → j ≠ 32 → M2.2.1 317 j = M.2.1 317 j
theorem frJ.tr {M M1 M2 : pM} (h : frJ M M1) (h2 : frJ M1 M2) : frJ M M2 := ⟨h.1.tr h2.1, fun j a b c => (h2.2 j a b c).trans (h.2 j a b c)⟩
def RMq (r : Int × rnS) (B : Nat → bS) (M : pM) (v : Option Value) (M2 : pM) : Prop := v = some (.int (iI r.1)) ∧ MB M2 (va_up B 0 r.2.1) ∧ MLg M2 r.2 ∧ frJ M M2 ∧ M2.2.1 317 0 = 0
set_option maxHeartbeats 4000000 in
theorem lp_X12_run {d : Nat} {Q : pQ} {N : Nat} {l1 : Option Value} {B : Nat → bS} (M0 : pM) (hN : N ≤ 200) :
    ∀ (m i h : Nat) (x : rnS) (M : pM) (l5 : Option Value), i + m = N → h < 4 → rnOk x → sOk M.1 → MB M (va_up B 0 x.1) → (∀ p, p < 156 → M.2.1 335 (156 * 0 + p) = bT x.1.1 p) → MLg M x → x.2.2 + m ≤ 2000000000 → frJ M0 M → M.2.1 317 0 = 0 → (∀ v M2, RMq (rnL m h x) B M0 v M2 → Q v M2) →
      Go (Ct (d + 3)) Q yX12_run cX12_run (some .int) 0 0 37 [some (.ref 317), l1, some (.int (iI ((N : Nat) : Int))), some (.int (iI ((h : Nat) : Int))), some (.int (iI ((i : Nat) : Int))), l5] [] M := by
  intro m
  induction m with
  | zero =>
    intro i h x M l5 hm hh hx hS hB hT hL hn hf hz hQ
    obtain rfl : i = N := by omega
    refine r_iload4 (pc2 := 39) dX12_run_37 rfl ?_
    refine r_iload2 (pc2 := 40) dX12_run_39 rfl ?_
    refine r_icge (tgt := 156) (pc2 := 43) dX12_run_40 rfl (by decide) ⟨by omega, by omega⟩ ⟨by omega, by omega⟩ (fun b_40 => ?_) (fun b_40 => ?_)
    · refine r_iconst (pc2 := 157) dX12_run_156 rfl ?_
      refine r_ireti dX12_run_157 rfl ?_
      exact hQ _ M ⟨rfl, hB, hL, hf, hz⟩
    · exact absurd b_40 (by omega)
  | succ m ih =>
    intro i h x M l5 hm hh hx hS hB hT hL hn hf hz hQ
    have hD := hx.1.1 h hh
    have hb0 := hB 0 (by omega)
    rw [up_at] at hb0
    have hst : M.2.1 334 h = x.1.1.2.2.2.2 h := by have := (hb0.2.1 h hh).2.2; rw [show 4 * 0 + h = h by omega] at this; exact this
    have hy := (bH_K (st := -2) hx.1 hh hx.2).2
    obtain ⟨y, ey⟩ : ∃ y, y = (bH x.1.1 (-2) x.1.2 h).1 := ⟨_, rfl⟩
    have eL : rnL (m + 1) h x = if x.1.1.2.2.2.2 h = 0 then (5, x) else if 256 ≤ y then (1 + y / 256, rn1 x h) else if x.1.1.2.2.2.1 y.toNat < 0 then (1, rn1 x h) else rnL m (x.1.1.2.2.2.1 y.toNat).toNat (rn1 x h) := by rw [ey]; rfl
    rw [← ey] at hy
    refine r_iload4 (pc2 := 39) dX12_run_37 rfl ?_
    refine r_iload2 (pc2 := 40) dX12_run_39 rfl ?_
    refine r_icge (tgt := 156) (pc2 := 43) dX12_run_40 rfl (by decide) ⟨by omega, by omega⟩ ⟨by omega, by omega⟩ (fun b_40 => ?_) (fun b_40 => ?_)
    · refine r_iconst (pc2 := 157) dX12_run_156 rfl ?_
      refine r_ireti dX12_run_157 rfl ?_
      exact absurd b_40 (by omega)
    · refine r_aload0 (pc2 := 44) dX12_run_43 rfl ?_
      refine r_getR (pc2 := 47) dX12_run_44 rfl fX12_104 (hK_317 hS) (hR_317_23 hS) ?_
      refine r_iload3 (pc2 := 48) dX12_run_47 rfl ?_
      refine r_iald (z := (x.1.1.2.2.2.2 h)) (pc2 := 49) dX12_run_48 rfl (hK_334 hS) h rfl (by omega) hst ?_
      refine r_ifne (tgt := 54) (pc2 := 52) dX12_run_49 rfl (by decide) ⟨by omega, by omega⟩ (fun b_49 => ?_) (fun b_49 => ?_)
      · refine r_aload0 (pc2 := 55) dX12_run_54 rfl ?_
        refine r_getR (pc2 := 58) dX12_run_55 rfl fX12_104 (hK_317 hS) (hR_317_23 hS) ?_
        refine r_iload3 (pc2 := 59) dX12_run_58 rfl ?_
        refine r_dup2 (pc2 := 60) dX12_run_59 rfl rfl rfl ?_
        refine r_iald (z := (x.1.1.2.2.2.2 h)) (pc2 := 61) dX12_run_60 rfl (hK_334 hS) h rfl (by omega) hst ?_
        refine r_iconst (pc2 := 62) dX12_run_61 rfl ?_
        refine r_isub (c := ((x.1.1.2.2.2.2 h) - 1)) (pc2 := 63) dX12_run_62 rfl rfl ?_
        refine r_iast (z := ((x.1.1.2.2.2.2 h) - 1)) (pc2 := 64) dX12_run_63 rfl (hK_334 hS) (by decide) h rfl (by omega) ?_
        refine r_aload0 (pc2 := 65) dX12_run_64 rfl ?_
        refine r_iconst (pc2 := 66) dX12_run_65 rfl ?_
        refine r_iconst (pc2 := 67) dX12_run_66 rfl ?_
        refine r_iload3 (pc2 := 68) dX12_run_67 rfl ?_
        refine r_bipush (pc2 := 70) dX12_run_68 rfl (by decide) (by decide) ?_
        obtain ⟨M1, h1⟩ : ∃ M1, M1 = pI M 334 h (x.1.1.2.2.2.2 h - 1) := ⟨_, rfl⟩
        rw [← h1]
        have hS1 : sOk M1.1 := by rw [h1]; exact hS
        have hB1 : MB M1 (va_up B 0 (stD x.1.1 h, x.1.2)) := by rw [h1]; exact hB.st hh
        have hb1 := hB1 0 (by omega)
        rw [up_at] at hb1
        have hx1 := rn1_ok hx hh (by omega)
        have hm1 : MS M1 0 0 (stD x.1.1 h) := hb1.ms2 (fun q hq => by rw [h1, pI_ne (by decide)]; exact hT q hq)
        refine r_cv4 (pc2 := 73) dX12_run_70 rfl vX12_312 (hK_317 hS1) (by decide) (MS_drop (d := d) (st := -2) (sh := x.1.2) hm1 hS1 (by decide) (by decide) hx1.1 hh hx.2 (fun q hq => (hb1.1 q hq).2.2) (by decide)) ?_
        rintro _ M2 ⟨rfl, f2, e2⟩
        have hS2 := f2.ok hS1
        have hB2 := hB1.sh f2 e2
        rw [show (bH (stD x.1.1 h) (-2) x.1.2 h).1 = y from ey.symm]
        have g32 : M2.2.1 317 32 = ((x.2.2 : Nat) : Int) := by rw [f2.i (by decide), h1, pI_ne (by decide)]; exact hL.1
        have g31 : M2.2.1 317 31 = ((x.2.2 : Nat) : Int) := by rw [f2.i (by decide), h1, pI_ne (by decide)]; exact hL.2.1
        have hlv : y < 13 → M2.2.1 331 y.toNat = x.1.1.2.2.2.1 y.toNat ∧ -1 ≤ x.1.1.2.2.2.1 y.toNat ∧ x.1.1.2.2.2.1 y.toNat < 4 := fun q => by
          have q9 := hB2 0 (by omega)
          rw [up_at] at q9
          have q8 := q9.2.2 y.toNat (by omega)
          rw [show 13 * 0 + y.toNat = y.toNat by omega] at q8
          exact ⟨q8, hx.1.2.1 y.toNat (by omega)⟩
        show Go (Ct (d + 3)) _ yX12_run cX12_run (some .int) 0 0 73 [some (.ref 317), l1, some (.int (iI ((N : Nat) : Int))), some (.int (iI ((h : Nat) : Int))), some (.int (iI ((i : Nat) : Int))), l5] [.int (iI y)] M2
        refine r_istore5 (pc2 := 75) dX12_run_73 rfl rfl ?_
        refine r_aload0 (pc2 := 76) dX12_run_75 rfl ?_
        refine r_getR (pc2 := 79) dX12_run_76 rfl fX12_113 (hK_317 hS2) (hR_317_33 hS2) ?_
        refine r_aload0 (pc2 := 80) dX12_run_79 rfl ?_
        refine r_getI (z := ((x.2.2 : Nat) : Int)) (pc2 := 83) dX12_run_80 rfl (Or.inl fX12_316) (hK_317 hS2) g32 ?_
        refine r_bipush (pc2 := 85) dX12_run_83 rfl (by decide) (by decide) ?_
        refine r_irem (pc2 := 86) dX12_run_85 rfl (by omega) (by omega) (by omega) (by omega) ?_
        refine r_iload3 (pc2 := 87) dX12_run_86 rfl ?_
        refine r_iconst (pc2 := 88) dX12_run_87 rfl ?_
        refine r_iload5 (pc2 := 90) dX12_run_88 rfl ?_
        refine r_imul (c := (4 * y)) (pc2 := 91) dX12_run_90 rfl rfl ?_
        refine r_iadd (c := (((h : Nat) : Int) + (4 * y))) (pc2 := 92) dX12_run_91 rfl rfl ?_
        refine r_iast (z := (((h : Nat) : Int) + (4 * y))) (pc2 := 93) dX12_run_92 rfl (hK_337 hS2) (by decide) (x.2.2 % 100) (by omega) (by omega) ?_
        refine r_aload0 (pc2 := 94) dX12_run_93 rfl ?_
        refine r_dup (pc2 := 95) dX12_run_94 rfl rfl ?_
        refine r_getI (z := ((x.2.2 : Nat) : Int)) (pc2 := 98) dX12_run_95 rfl (Or.inl fX12_316) (hK_317 hS2) g32 ?_
        refine r_iconst (pc2 := 99) dX12_run_98 rfl ?_
        refine r_iadd (c := ((x.2.2 + 1 : Nat) : Int)) (pc2 := 100) dX12_run_99 rfl (by omega) ?_
        refine r_putI (z := ((x.2.2 + 1 : Nat) : Int)) (pc2 := 103) dX12_run_100 rfl fX12_316 (w12_32 _) (hK_317 hS2) (by decide) ?_
        refine r_aload0 (pc2 := 104) dX12_run_103 rfl ?_
        refine r_dup (pc2 := 105) dX12_run_104 rfl rfl ?_
        refine r_getI (z := ((x.2.2 : Nat) : Int)) (pc2 := 108) dX12_run_105 rfl (Or.inl fX12_319) (hK_317 hS2) g31 ?_
        refine r_iconst (pc2 := 109) dX12_run_108 rfl ?_
        refine r_iadd (c := ((x.2.2 + 1 : Nat) : Int)) (pc2 := 110) dX12_run_109 rfl (by omega) ?_
        refine r_putI (z := ((x.2.2 + 1 : Nat) : Int)) (pc2 := 113) dX12_run_110 rfl fX12_319 (w12_31 _) (hK_317 hS2) (by decide) ?_
        refine r_iload5 (pc2 := 115) dX12_run_113 rfl ?_
        refine r_sipush (pc2 := 118) dX12_run_115 rfl (by decide) (by decide) ?_
        refine r_iclt (tgt := 130) (pc2 := 121) dX12_run_118 rfl (by decide) ⟨by omega, by omega⟩ ⟨by omega, by omega⟩ (fun b_118 => ?_) (fun b_118 => ?_)
        · refine r_aload0 (pc2 := 131) dX12_run_130 rfl ?_
          refine r_getR (pc2 := 134) dX12_run_131 rfl fX12_95 (hK_317 hS2) (hR_317_20 hS2) ?_
          refine r_iload5 (pc2 := 136) dX12_run_134 rfl ?_
          refine r_iald (z := (x.1.1.2.2.2.1 y.toNat)) (pc2 := 137) dX12_run_136 rfl (hK_331 hS2) (y).toNat (by omega) (by omega) (hlv (by omega)).1 ?_
          refine r_ifge (tgt := 142) (pc2 := 140) dX12_run_137 rfl (by decide) ⟨by omega, by omega⟩ (fun b_137 => ?_) (fun b_137 => ?_)
          · refine r_aload0 (pc2 := 143) dX12_run_142 rfl ?_
            refine r_getR (pc2 := 146) dX12_run_143 rfl fX12_95 (hK_317 hS2) (hR_317_20 hS2) ?_
            refine r_iload5 (pc2 := 148) dX12_run_146 rfl ?_
            refine r_iald (z := (x.1.1.2.2.2.1 y.toNat)) (pc2 := 149) dX12_run_148 rfl (hK_331 hS2) (y).toNat (by omega) (by omega) (hlv (by omega)).1 ?_
            refine r_istore3 (pc2 := 150) dX12_run_149 rfl rfl ?_
            refine r_iinc4 (z := ((i + 1 : Nat) : Int)) (pc2 := 153) dX12_run_150 rfl (by omega) rfl ?_
            refine r_goto (tgt := 37) dX12_run_153 (by decide) ?_
            have hl9 := hlv (by omega)
            obtain ⟨h2, e2⟩ : ∃ h2 : Nat, h2 = (x.1.1.2.2.2.1 y.toNat).toNat := ⟨_, rfl⟩
            have e3 : x.1.1.2.2.2.1 y.toNat = ((h2 : Nat) : Int) := by omega
            rw [e3]
            obtain ⟨M8, h8⟩ : ∃ M8, M8 = pI (pI (pI M2 337 (x.2.2 % 100) (((h : Nat) : Int) + (4 * y))) 317 32 ((x.2.2 + 1 : Nat) : Int)) 317 31 ((x.2.2 + 1 : Nat) : Int) := ⟨_, rfl⟩
            rw [← h8]
            have hS8 : sOk M8.1 := by rw [h8]; exact hS2
            have f8 : frJ M M8 := by
              refine ⟨?_, fun j j0 j1 j2 => ?_⟩
              · rw [h8]; exact ((((fr.tr (M1 := M1) (by rw [h1]; exact fr.rf.I (by decide)) (f2.mono (by decide))).I (by decide)).I (by decide)).I (by decide))
              · rw [h8, pI_nk j1, pI_nk j2, pI_ne (by decide), f2.i (by decide), h1, pI_ne (by decide)]
            have z8 : M8.2.1 317 0 = 0 := by rw [h8, pI_nk (by decide), pI_nk (by decide), pI_ne (by decide), f2.i (by decide), h1, pI_ne (by decide)]; exact hz
            have c8 : MB M8 (va_up B 0 (rn1 x h).1) := by rw [h8]; exact (MB.ofl (M := M2) hB2 (fr.rf.I (show 337 ∈ [337] by decide)) (by decide)).z.z
            have l8 : MLg M8 (rn1 x h) := by
              refine ⟨?_, ?_, fun j hj => ?_⟩
              · rw [h8, pI_nk (by decide), pI_at]; rfl
              · rw [h8, pI_at]; rfl
              · show _ = va_up x.2.1 (x.2.2 % 100) ((h : Int) + 4 * (bH x.1.1 (-2) x.1.2 h).1) j
                rw [h8, pI_ne (by decide), pI_ne (by decide), pI_eq, ← ey]
                by_cases e : j = x.2.2 % 100
                · rw [e, up_at, up_at]
                · rw [up_ne e, up_ne e, f2.i (by decide), h1, pI_ne (by decide)]; exact hL.2.2 j hj
            have f8335 : M8.2.1 335 = M.2.1 335 := by rw [h8, pI_ne (by decide), pI_ne (by decide), pI_ne (by decide), f2.i (by decide), h1, pI_ne (by decide)]
            have e9 : rnL (m + 1) h x = rnL m h2 (rn1 x h) := by rw [eL, if_neg (by omega), if_neg (by omega), if_neg (by omega), e2]
            have hT8 : ∀ p, p < 156 → M8.2.1 335 (156 * 0 + p) = bT (rn1 x h).1.1 p := fun p hp => by rw [f8335]; exact hT p hp
            refine ih (i + 1) h2 (rn1 x h) M8 _ (by omega) (by omega) hx1 hS8 c8 hT8 l8 (by show x.2.2 + 1 + m ≤ 2000000000; omega) (hf.tr f8) z8 (fun v M2 q1 => hQ v M2 (by rw [e9]; exact q1))
          · refine r_iconst (pc2 := 141) dX12_run_140 rfl ?_
            refine r_ireti dX12_run_141 rfl ?_
            have hl9 := hlv (by omega)
            obtain ⟨M8, h8⟩ : ∃ M8, M8 = pI (pI (pI M2 337 (x.2.2 % 100) (((h : Nat) : Int) + (4 * y))) 317 32 ((x.2.2 + 1 : Nat) : Int)) 317 31 ((x.2.2 + 1 : Nat) : Int) := ⟨_, rfl⟩
            rw [← h8]
            have hS8 : sOk M8.1 := by rw [h8]; exact hS2
            have f8 : frJ M M8 := by
              refine ⟨?_, fun j j0 j1 j2 => ?_⟩
              · rw [h8]; exact ((((fr.tr (M1 := M1) (by rw [h1]; exact fr.rf.I (by decide)) (f2.mono (by decide))).I (by decide)).I (by decide)).I (by decide))
              · rw [h8, pI_nk j1, pI_nk j2, pI_ne (by decide), f2.i (by decide), h1, pI_ne (by decide)]
            have z8 : M8.2.1 317 0 = 0 := by rw [h8, pI_nk (by decide), pI_nk (by decide), pI_ne (by decide), f2.i (by decide), h1, pI_ne (by decide)]; exact hz
            have c8 : MB M8 (va_up B 0 (rn1 x h).1) := by rw [h8]; exact (MB.ofl (M := M2) hB2 (fr.rf.I (show 337 ∈ [337] by decide)) (by decide)).z.z
            have l8 : MLg M8 (rn1 x h) := by
              refine ⟨?_, ?_, fun j hj => ?_⟩
              · rw [h8, pI_nk (by decide), pI_at]; rfl
              · rw [h8, pI_at]; rfl
              · show _ = va_up x.2.1 (x.2.2 % 100) ((h : Int) + 4 * (bH x.1.1 (-2) x.1.2 h).1) j
                rw [h8, pI_ne (by decide), pI_ne (by decide), pI_eq, ← ey]
                by_cases e : j = x.2.2 % 100
                · rw [e, up_at, up_at]
                · rw [up_ne e, up_ne e, f2.i (by decide), h1, pI_ne (by decide)]; exact hL.2.2 j hj
            have f8335 : M8.2.1 335 = M.2.1 335 := by rw [h8, pI_ne (by decide), pI_ne (by decide), pI_ne (by decide), f2.i (by decide), h1, pI_ne (by decide)]
            have e9 : rnL (m + 1) h x = (1, rn1 x h) := by rw [eL, if_neg (by omega), if_neg (by omega), if_pos (by omega)]
            exact hQ _ M8 ⟨by rw [e9], by rw [e9]; exact c8, by rw [e9]; exact l8, hf.tr f8, z8⟩
        · refine r_iconst (pc2 := 122) dX12_run_121 rfl ?_
          refine r_iload5 (pc2 := 124) dX12_run_122 rfl ?_
          refine r_sipush (pc2 := 127) dX12_run_124 rfl (by decide) (by decide) ?_
          refine r_idiv (pc2 := 128) dX12_run_127 rfl (by omega) (by omega) (by omega) (by omega) ?_
          refine r_iadd (c := (1 + (y / 256))) (pc2 := 129) dX12_run_128 rfl rfl ?_
          refine r_ireti dX12_run_129 rfl ?_
          obtain ⟨M8, h8⟩ : ∃ M8, M8 = pI (pI (pI M2 337 (x.2.2 % 100) (((h : Nat) : Int) + (4 * y))) 317 32 ((x.2.2 + 1 : Nat) : Int)) 317 31 ((x.2.2 + 1 : Nat) : Int) := ⟨_, rfl⟩
          rw [← h8]
          have hS8 : sOk M8.1 := by rw [h8]; exact hS2
          have f8 : frJ M M8 := by
            refine ⟨?_, fun j j0 j1 j2 => ?_⟩
            · rw [h8]; exact ((((fr.tr (M1 := M1) (by rw [h1]; exact fr.rf.I (by decide)) (f2.mono (by decide))).I (by decide)).I (by decide)).I (by decide))
            · rw [h8, pI_nk j1, pI_nk j2, pI_ne (by decide), f2.i (by decide), h1, pI_ne (by decide)]
          have z8 : M8.2.1 317 0 = 0 := by rw [h8, pI_nk (by decide), pI_nk (by decide), pI_ne (by decide), f2.i (by decide), h1, pI_ne (by decide)]; exact hz
          have c8 : MB M8 (va_up B 0 (rn1 x h).1) := by rw [h8]; exact (MB.ofl (M := M2) hB2 (fr.rf.I (show 337 ∈ [337] by decide)) (by decide)).z.z
          have l8 : MLg M8 (rn1 x h) := by
            refine ⟨?_, ?_, fun j hj => ?_⟩
            · rw [h8, pI_nk (by decide), pI_at]; rfl
            · rw [h8, pI_at]; rfl
            · show _ = va_up x.2.1 (x.2.2 % 100) ((h : Int) + 4 * (bH x.1.1 (-2) x.1.2 h).1) j
              rw [h8, pI_ne (by decide), pI_ne (by decide), pI_eq, ← ey]
              by_cases e : j = x.2.2 % 100
              · rw [e, up_at, up_at]
              · rw [up_ne e, up_ne e, f2.i (by decide), h1, pI_ne (by decide)]; exact hL.2.2 j hj
          have f8335 : M8.2.1 335 = M.2.1 335 := by rw [h8, pI_ne (by decide), pI_ne (by decide), pI_ne (by decide), f2.i (by decide), h1, pI_ne (by decide)]
          have e9 : rnL (m + 1) h x = (1 + y / 256, rn1 x h) := by rw [eL, if_neg (by omega), if_pos (by omega)]
          exact hQ _ M8 ⟨by rw [e9], by rw [e9]; exact c8, by rw [e9]; exact l8, hf.tr f8, z8⟩
      · refine r_iconst (pc2 := 53) dX12_run_52 rfl ?_
        refine r_ireti dX12_run_53 rfl ?_
        refine hQ _ M ⟨by rw [eL, if_pos (by omega)], by rw [eL, if_pos (by omega)]; exact hB, by rw [eL, if_pos (by omega)]; exact hL, hf, hz⟩
