/-! run, and the class's side of it: ((board, what it shows), (rows of the log, how many DROPS)) -/
abbrev rnS : Type := bS × (Nat → Int) × Nat
def stD (D : bD) (h : Nat) : bD := (D.1, D.2.1, D.2.2.1, D.2.2.2.1, va_up D.2.2.2.2 h (D.2.2.2.2 h - 1))
def rn1 (x : rnS) (h : Nat) : rnS := ((stD x.1.1 h, (bH x.1.1 (-2) x.1.2 h).2), va_up x.2.1 (x.2.2 % 100) ((h : Int) + 4 * (bH x.1.1 (-2) x.1.2 h).1), x.2.2 + 1)
def rnL : Nat → Nat → rnS → Int × rnS
  | 0, _, x => (0, x)
  | m + 1, h, x =>
    if x.1.1.2.2.2.2 h = 0 then (5, x) else
    if 256 ≤ (bH x.1.1 (-2) x.1.2 h).1 then (1 + (bH x.1.1 (-2) x.1.2 h).1 / 256, rn1 x h) else
    if x.1.1.2.2.2.1 (bH x.1.1 (-2) x.1.2 h).1.toNat < 0 then (1, rn1 x h) else
    rnL m (x.1.1.2.2.2.1 (bH x.1.1 (-2) x.1.2 h).1.toNat).toNat (rn1 x h)
def rnOk (x : rnS) : Prop := bOk x.1.1 ∧ bK x.1.1 x.1.2
theorem rn1_ok {x : rnS} {h : Nat} (hx : rnOk x) (hh : h < 4) (h0 : ¬ x.1.1.2.2.2.2 h = 0) : rnOk (rn1 x h) := by
  have h1 := bH_K (st := -2) hx.1 hh hx.2
  refine ⟨⟨fun y hy => ?_, hx.1.2.1, hx.1.2.2⟩, h1.1⟩
  have h2 := hx.1.1 y hy
  refine ⟨h2.1, h2.2.1, h2.2.2.1, ?_⟩
  show 0 ≤ va_up x.1.1.2.2.2.2 h (x.1.1.2.2.2.2 h - 1) y ∧ va_up x.1.1.2.2.2.2 h (x.1.1.2.2.2.2 h - 1) y ≤ 999
  by_cases e : y = h
  · subst e; rw [up_at]; omega
  · rw [up_ne e]; exact h2.2.2.2
def CLg (M : pM) (x : rnS) : Prop := M.2.1 254 1 = ((x.2.2 : Nat) : Int) ∧ ∀ j, j < 100 → M.2.1 255 j = x.2.1 j
def frR (M M2 : pM) : Prop := M2.1 = M.1 ∧ (∀ a, a ∉ [28, 254, 255, 263, 266] → M2.2.1 a = M.2.1 a) ∧ (∀ a, a ≠ 19 → M2.2.2 a = M.2.2 a) ∧ (∀ j, j ≠ 0 → M2.2.1 263 j = M.2.1 263 j) ∧ (∀ j, j ≠ 4 → M2.2.1 266 j = M.2.1 266 j) ∧ (∀ j, j ≠ 1 → M2.2.1 254 j = M.2.1 254 j)
theorem frR.rf {M : pM} : frR M M := ⟨rfl, fun _ _ => rfl, fun _ _ => rfl, fun _ _ => rfl, fun _ _ => rfl, fun _ _ => rfl⟩
theorem frR.tr {M M1 M2 : pM} (h : frR M M1) (h2 : frR M1 M2) : frR M M2 := ⟨h2.1.trans h.1, fun a q => (h2.2.1 a q).trans (h.2.1 a q), fun a q => (h2.2.2.1 a q).trans (h.2.2.1 a q), fun j q => (h2.2.2.2.1 j q).trans (h.2.2.2.1 j q), fun j q => (h2.2.2.2.2.1 j q).trans (h.2.2.2.2.1 j q), fun j q => (h2.2.2.2.2.2 j q).trans (h.2.2.2.2.2 j q)⟩
set_option maxHeartbeats 4000000 in
theorem c_X1_add {d : Nat} {M : pM} {n : Nat} {z : Int} (hS : sOk M.1) (hn : M.2.1 254 1 = (n : Int)) (hn2 : n ≤ 2000000000) : Ct (d + 1) 0 0 yX1_add [.ref 254, .int (iI z)] M (fun v M2 => v = none ∧ M2 = pI (pI M 255 (n % 100) z) 254 1 ((n + 1 : Nat) : Int)) := by
  refine ct_in (d := d) kX1_add rfl (by decide) (Nat.le_of_ble_eq_true rfl) (by decide) ?_
  show Go (Ct d) _ yX1_add cX1_add none 0 0 0 [some (.ref 254), some (.int (iI z))] [] M
  refine r_aload0 (pc2 := 1) dX1_add_0 rfl ?_
  refine r_getR (pc2 := 4) dX1_add_1 rfl fX1_11 (hK_254 hS) (hR_254_0 hS) ?_
  refine r_aload0 (pc2 := 5) dX1_add_4 rfl ?_
  refine r_getI (z := ((n : Nat) : Int)) (pc2 := 8) dX1_add_5 rfl (Or.inl fX1_15) (hK_254 hS) hn ?_
  refine r_bipush (pc2 := 10) dX1_add_8 rfl (by decide) (by decide) ?_
  refine r_irem (pc2 := 11) dX1_add_10 rfl (by omega) (by omega) (by omega) (by omega) ?_
  refine r_iload1 (pc2 := 12) dX1_add_11 rfl ?_
  refine r_iast (z := z) (pc2 := 13) dX1_add_12 rfl (hK_255 hS) (by decide) (n % 100) (by omega) (by omega) ?_
  refine r_aload0 (pc2 := 14) dX1_add_13 rfl ?_
  refine r_dup (pc2 := 15) dX1_add_14 rfl rfl ?_
  refine r_getI (z := ((n : Nat) : Int)) (pc2 := 18) dX1_add_15 rfl (Or.inl fX1_15) (hK_254 hS) hn ?_
  refine r_iconst (pc2 := 19) dX1_add_18 rfl ?_
  refine r_iadd (c := ((n + 1 : Nat) : Int)) (pc2 := 20) dX1_add_19 rfl (by omega) ?_
  refine r_putI (z := ((n + 1 : Nat) : Int)) (pc2 := 23) dX1_add_20 rfl fX1_15 (w1_1 _) (hK_254 hS) (by decide) ?_
  refine r_ret dX1_add_23 rfl ?_
  exact ⟨rfl, rfl⟩
theorem stk_0 {pc : Nat → Int} {ix : Nat → Nat} {st : Int} (hs : st < -1) : stk pc (tal pc 156) ix st 0 := by
  intro j hj
  rw [bl_0]
  refine ⟨fun q => absurd q (by decide), fun ⟨q, q1, q2, q3, q4⟩ => ?_⟩
  have := (tal_A (pc := pc) 156 (Nat.le_refl _)).1 q
  omega
set_option maxHeartbeats 4000000 in
theorem c_X11_dropNow {d : Nat} {M : pM} {h : Nat} {x : rnS} {ix : Nat → Nat} (hS : sOk M.1) (hC : CF M 19 x.1 ix) (hx : rnOk x) (hh : h < 4) (hL : CLg M x) (hn : x.2.2 ≤ 2000000000) : Ct (d + 4) 0 0 yX11_dropNow [.ref 2, .int (iI ((h : Nat) : Int))] M (fun v M2 => v = some (.int (iI (bH x.1.1 (-2) x.1.2 h).1)) ∧ CF M2 19 (rn1 x h).1 ix ∧ CLg M2 (rn1 x h) ∧ frR M M2 ∧ M2.2.1 263 0 = -1 ∧ M2.2.1 266 4 = 0) := by
  refine ct_in (d := (d + 3)) kX11_dropNow rfl (by decide) (Nat.le_of_ble_eq_true rfl) (by decide) ?_
  show Go (Ct (d + 3)) _ yX11_dropNow cX11_dropNow (some .int) 0 0 0 [some (.ref 2), some (.int (iI ((h : Nat) : Int))), none] [] M
  refine r_aload0 (pc2 := 1) dX11_dropNow_0 rfl ?_
  refine r_getR (pc2 := 4) dX11_dropNow_1 rfl fX11_28 (hK_2 hS) (hR_2_2 hS) ?_
  refine r_aload0 (pc2 := 5) dX11_dropNow_4 rfl ?_
  refine r_getR (pc2 := 8) dX11_dropNow_5 rfl fX11_28 (hK_2 hS) (hR_2_2 hS) ?_
  refine r_getJ (z := (M.2.2 19 11)) (pc2 := 11) dX11_dropNow_8 rfl fX11_238 (hK_19 hS) rfl ?_
  refine r_iload1 (pc2 := 12) dX11_dropNow_11 rfl ?_
  refine r_lconst (pc2 := 13) dX11_dropNow_12 rfl ?_
  refine r_cv3 (pc2 := 16) dX11_dropNow_13 rfl vX11_242 (hK_19 hS) (by decide) (CS_drop (d := d) (st := -2) (sh := x.1.2) hC.1 hS isB_19 hx.1 hh hx.2 hC.2.1 (stk_0 (by omega))) ?_
  rintro _ M1 ⟨rfl, a2, h1, e1⟩
  have hS1 : sOk M1.1 := by rw [h1]; exact hS
  obtain ⟨y, ey⟩ : ∃ y, y = (bH x.1.1 (-2) x.1.2 h).1 := ⟨_, rfl⟩
  rw [← ey]
  have hy := (bH_K (st := -2) hx.1 hh hx.2).2
  rw [← ey] at hy
  show Go (Ct (d + 3)) _ yX11_dropNow cX11_dropNow (some .int) 0 0 16 [some (.ref 2), some (.int (iI ((h : Nat) : Int))), none] [.int (iI y)] M1
  refine r_istore2 (pc2 := 17) dX11_dropNow_16 rfl rfl ?_
  refine r_aload0 (pc2 := 18) dX11_dropNow_17 rfl ?_
  refine r_getR (pc2 := 21) dX11_dropNow_18 rfl fX11_28 (hK_2 hS1) (hR_2_2 hS1) ?_
  refine r_aload0 (pc2 := 22) dX11_dropNow_21 rfl ?_
  refine r_getR (pc2 := 25) dX11_dropNow_22 rfl fX11_28 (hK_2 hS1) (hR_2_2 hS1) ?_
  refine r_getJ (z := a2) (pc2 := 28) dX11_dropNow_25 rfl fX11_277 (hK_19 hS1) (by rw [h1]; exact pJ_at) ?_
  refine r_putJ (pc2 := 31) dX11_dropNow_28 rfl fX11_238 (w0_11 _) (hK_19 hS1) (by decide) ?_
  refine r_aload0 (pc2 := 32) dX11_dropNow_31 rfl ?_
  refine r_getR (pc2 := 35) dX11_dropNow_32 rfl fX11_28 (hK_2 hS1) (hR_2_2 hS1) ?_
  refine r_getR (pc2 := 38) dX11_dropNow_35 rfl fX11_168 (hK_19 hS1) (hR_19_8 hS1) ?_
  refine r_iload1 (pc2 := 39) dX11_dropNow_38 rfl ?_
  refine r_dup2 (pc2 := 40) dX11_dropNow_39 rfl rfl rfl ?_
  refine r_iald (z := (x.1.1.2.2.2.2 h)) (pc2 := 41) dX11_dropNow_40 rfl (hK_28 hS1) h rfl (by omega) (by show M1.2.1 28 h = _; rw [h1]; exact (hC.1.2.1 h hh).2.2) ?_
  refine r_iconst (pc2 := 42) dX11_dropNow_41 rfl ?_
  refine r_isub (c := ((x.1.1.2.2.2.2 h) - 1)) (pc2 := 43) dX11_dropNow_42 rfl rfl ?_
  refine r_iast (z := ((x.1.1.2.2.2.2 h) - 1)) (pc2 := 44) dX11_dropNow_43 rfl (hK_28 hS1) (by decide) h rfl (by omega) ?_
  refine r_aload0 (pc2 := 45) dX11_dropNow_44 rfl ?_
  refine r_getR (pc2 := 48) dX11_dropNow_45 rfl fX11_59 (hK_2 hS1) (hR_2_7 hS1) ?_
  refine r_iload1 (pc2 := 49) dX11_dropNow_48 rfl ?_
  refine r_iconst (pc2 := 50) dX11_dropNow_49 rfl ?_
  refine r_iload2 (pc2 := 51) dX11_dropNow_50 rfl ?_
  refine r_imul (c := (4 * y)) (pc2 := 52) dX11_dropNow_51 rfl rfl ?_
  refine r_iadd (c := (((h : Nat) : Int) + (4 * y))) (pc2 := 53) dX11_dropNow_52 rfl rfl ?_
  refine r_cv1 (pc2 := 56) dX11_dropNow_53 rfl vX11_280 (hK_254 hS1) (by decide) (c_X1_add (d := d + 2) (n := x.2.2) (z := ((h : Nat) : Int) + 4 * y) hS1 (by show M1.2.1 254 1 = _; rw [h1]; exact hL.1) hn) ?_
  rintro _ M4 ⟨rfl, h4⟩
  have hS4 : sOk M4.1 := by rw [h4]; exact hS1
  show Go (Ct (d + 3)) _ yX11_dropNow cX11_dropNow (some .int) 0 0 56 [some (.ref 2), some (.int (iI ((h : Nat) : Int))), some (.int (iI y))] [] M4
  refine r_aload0 (pc2 := 57) dX11_dropNow_56 rfl ?_
  refine r_cv0 (pc2 := 60) dX11_dropNow_57 rfl vX11_124 (hK_2 hS4) (by decide) (c_X11_forgetSearches (d := d + 2) hS4) ?_
  rintro _ M5 ⟨rfl, h5⟩
  show Go (Ct (d + 3)) _ yX11_dropNow cX11_dropNow (some .int) 0 0 60 [some (.ref 2), some (.int (iI ((h : Nat) : Int))), some (.int (iI y))] [] M5
  refine r_iload2 (pc2 := 61) dX11_dropNow_60 rfl ?_
  refine r_ireti dX11_dropNow_61 rfl ?_
  have em : M5 = pI (pI (pI (pI (pI (pJ (pJ M 19 12 a2) 19 11 a2) 28 h (x.1.1.2.2.2.2 h - 1)) 255 (x.2.2 % 100) (((h : Nat) : Int) + 4 * y)) 254 1 ((x.2.2 + 1 : Nat) : Int)) 263 0 (-1)) 266 4 0 := by rw [h5, h4, h1]
  have e5 : ∀ a, a ∉ [28, 254, 255, 263, 266] → M5.2.1 a = M.2.1 a := fun a ha => by
    simp only [List.mem_cons, List.not_mem_nil, or_false] at ha
    rw [em, pI_ne (by omega), pI_ne (by omega), pI_ne (by omega), pI_ne (by omega), pI_ne (by omega)]; rfl
  have j5 : ∀ a, a ≠ 19 → M5.2.2 a = M.2.2 a := fun a ha => by rw [em]; show (pJ (pJ M 19 12 a2) 19 11 a2).2.2 a = _; rw [pJ_ne ha, pJ_ne ha]
  have e28 : ∀ j, M5.2.1 28 j = va_up (M.2.1 28) h (x.1.1.2.2.2.2 h - 1) j := fun j => by rw [em, pI_ne (by decide), pI_ne (by decide), pI_ne (by decide), pI_ne (by decide), pI_eq]; rfl
  have e11 : M5.2.2 19 11 = a2 := by rw [em]; show (pJ (pJ M 19 12 a2) 19 11 a2).2.2 19 11 = a2; exact pJ_at
  refine ⟨by rw [ey], ⟨?_, ?_, hC.2.2.1, ?_, ?_⟩, ⟨?_, fun j hj => ?_⟩, ⟨by rw [em]; rfl, e5, j5, fun j hj => ?_, fun j hj => ?_, fun j hj => ?_⟩, ?_, ?_⟩
  · obtain ⟨⟨c1, c2, c3, c4, c5, c6⟩, c7, c8⟩ := hC.1
    refine ⟨⟨?_, ?_, ?_, ?_, ?_, c6⟩, fun q hq => ?_, ?_⟩
    · rw [e5 20 (by decide)]; exact c1
    · rw [e5 21 (by decide)]; exact c2
    · rw [e5 22 (by decide)]; exact c3
    · rw [e5 23 (by decide)]; exact c4
    · rw [j5 24 (by decide)]; exact c5
    · show M5.2.1 27 q = x.1.1.2.1 q ∧ M5.2.1 26 q = _ ∧ M5.2.1 28 q = va_up x.1.1.2.2.2.2 h (x.1.1.2.2.2.2 h - 1) q
      have c9 := c7 q hq
      rw [e5 27 (by decide), e5 26 (by decide), e28]
      refine ⟨c9.1, c9.2.1, ?_⟩
      by_cases e : q = h
      · rw [e, up_at, up_at]
      · rw [up_ne e, up_ne e]; exact c9.2.2
    · rw [e5 25 (by decide)]; exact c8
  · rw [e11]; exact e1
  · rw [e5 19 (by decide)]; exact hC.2.2.2.1
  · rw [e5 19 (by decide)]; exact hC.2.2.2.2
  · rw [em, pI_ne (by decide), pI_ne (by decide), pI_at]; rfl
  · show _ = va_up x.2.1 (x.2.2 % 100) ((h : Int) + 4 * (bH x.1.1 (-2) x.1.2 h).1) j
    rw [em, pI_ne (by decide), pI_ne (by decide), pI_ne (by decide), pI_eq, ← ey]
    by_cases e : j = x.2.2 % 100
    · rw [e, up_at, up_at]
    · rw [up_ne e, up_ne e]; exact hL.2 j hj
  · rw [em, pI_ne (by decide), pI_nk hj, pI_ne (by decide), pI_ne (by decide), pI_ne (by decide)]; rfl
  · rw [em, pI_nk hj, pI_ne (by decide), pI_ne (by decide), pI_ne (by decide), pI_ne (by decide)]; rfl
  · rw [em, pI_ne (by decide), pI_ne (by decide), pI_nk hj, pI_ne (by decide), pI_ne (by decide)]; rfl
  · rw [em, pI_ne (by decide), pI_at]
  · rw [em, pI_at]
def RCq (r : Int × rnS) (b0 : Bool) (ix : Nat → Nat) (M : pM) (v : Option Value) (M2 : pM) : Prop := v = some (.int (iI r.1)) ∧ CF M2 19 r.2.1 ix ∧ CLg M2 r.2 ∧ frR M M2 ∧ ((M2 = M ∧ b0 = true) ∨ (M2.2.1 263 0 = -1 ∧ M2.2.1 266 4 = 0))
set_option maxHeartbeats 4000000 in
theorem lp_X11_run {d : Nat} {Q : pQ} {N : Nat} {l1 l5 : Option Value} {ix : Nat → Nat} (M0 : pM) (hN : N ≤ 200) :
    ∀ (m i h : Nat) (x : rnS) (M : pM) (l5 : Option Value), i + m = N → h < 4 → rnOk x → sOk M.1 → CF M 19 x.1 ix → CLg M x → x.2.2 + m ≤ 2000000000 → frR M0 M → ((M = M0 ∧ i = 0) ∨ (M.2.1 263 0 = -1 ∧ M.2.1 266 4 = 0)) → (∀ v M2, RCq (rnL m h x) (decide (i = 0)) ix M v M2 → frR M0 M2 → ((M2 = M0 ∧ i = 0) ∨ (M2.2.1 263 0 = -1 ∧ M2.2.1 266 4 = 0)) → Q v M2) →
      Go (Ct (d + 4)) Q yX11_run cX11_run (some .int) 0 0 26 [some (.ref 2), l1, some (.int (iI ((N : Nat) : Int))), some (.int (iI ((h : Nat) : Int))), some (.int (iI ((i : Nat) : Int))), l5] [] M := by
  intro m
  induction m with
  | zero =>
    intro i h x M l5 hm hh hx hS hC hL hn hf hz hQ
    obtain rfl : i = N := by omega
    refine r_iload4 (pc2 := 28) dX11_run_26 rfl ?_
    refine r_iload2 (pc2 := 29) dX11_run_28 rfl ?_
    refine r_icge (tgt := 94) (pc2 := 32) dX11_run_29 rfl (by decide) ⟨by omega, by omega⟩ ⟨by omega, by omega⟩ (fun b_29 => ?_) (fun b_29 => ?_)
    · refine r_iconst (pc2 := 95) dX11_run_94 rfl ?_
      refine r_ireti dX11_run_95 rfl ?_
      refine hQ _ M ⟨rfl, hC, hL, frR.rf, ?_⟩ hf hz
      rcases hz with hz | hz
      · exact Or.inl ⟨rfl, by rw [hz.2]; rfl⟩
      · exact Or.inr hz
    · exact absurd b_29 (by omega)
  | succ m ih =>
    intro i h x M l5 hm hh hx hS hC hL hn hf hz hQ
    have hD := hx.1.1 h hh
    have hst := (hC.1.2.1 h hh).2.2
    have hy := (bH_K (st := -2) hx.1 hh hx.2).2
    obtain ⟨y, ey⟩ : ∃ y, y = (bH x.1.1 (-2) x.1.2 h).1 := ⟨_, rfl⟩
    have eL : rnL (m + 1) h x = if x.1.1.2.2.2.2 h = 0 then (5, x) else if 256 ≤ y then (1 + y / 256, rn1 x h) else if x.1.1.2.2.2.1 y.toNat < 0 then (1, rn1 x h) else rnL m (x.1.1.2.2.2.1 y.toNat).toNat (rn1 x h) := by rw [ey]; rfl
    rw [← ey] at hy
    refine r_iload4 (pc2 := 28) dX11_run_26 rfl ?_
    refine r_iload2 (pc2 := 29) dX11_run_28 rfl ?_
    refine r_icge (tgt := 94) (pc2 := 32) dX11_run_29 rfl (by decide) ⟨by omega, by omega⟩ ⟨by omega, by omega⟩ (fun b_29 => ?_) (fun b_29 => ?_)
    · refine r_iconst (pc2 := 95) dX11_run_94 rfl ?_
      refine r_ireti dX11_run_95 rfl ?_
      exact absurd b_29 (by omega)
    · refine r_aload0 (pc2 := 33) dX11_run_32 rfl ?_
      refine r_getR (pc2 := 36) dX11_run_33 rfl fX11_28 (hK_2 hS) (hR_2_2 hS) ?_
      refine r_getR (pc2 := 39) dX11_run_36 rfl fX11_168 (hK_19 hS) (hR_19_8 hS) ?_
      refine r_iload3 (pc2 := 40) dX11_run_39 rfl ?_
      refine r_iald (z := (x.1.1.2.2.2.2 h)) (pc2 := 41) dX11_run_40 rfl (hK_28 hS) h rfl (by omega) hst ?_
      refine r_ifne (tgt := 46) (pc2 := 44) dX11_run_41 rfl (by decide) ⟨by omega, by omega⟩ (fun b_41 => ?_) (fun b_41 => ?_)
      · refine r_aload0 (pc2 := 47) dX11_run_46 rfl ?_
        refine r_iload3 (pc2 := 48) dX11_run_47 rfl ?_
        refine r_cv1 (pc2 := 51) dX11_run_48 rfl vX11_171 (hK_2 hS) (by decide) (c_X11_dropNow (d := d) hS hC hx hh hL (by omega)) ?_
        rintro _ M8 ⟨rfl, c8, l8, f8, z8, w8⟩
        rw [← ey]
        have hS8 : sOk M8.1 := by rw [f8.1]; exact hS
        have hlv : y < 13 → M8.2.1 25 y.toNat = x.1.1.2.2.2.1 y.toNat ∧ -1 ≤ x.1.1.2.2.2.1 y.toNat ∧ x.1.1.2.2.2.1 y.toNat < 4 := fun q => ⟨c8.1.2.2 y.toNat (by omega), hx.1.2.1 y.toNat (by omega)⟩
        show Go (Ct (d + 4)) _ yX11_run cX11_run (some .int) 0 0 51 [some (.ref 2), l1, some (.int (iI ((N : Nat) : Int))), some (.int (iI ((h : Nat) : Int))), some (.int (iI ((i : Nat) : Int))), l5] [.int (iI y)] M8
        refine r_istore5 (pc2 := 53) dX11_run_51 rfl rfl ?_
        refine r_iload5 (pc2 := 55) dX11_run_53 rfl ?_
        refine r_sipush (pc2 := 58) dX11_run_55 rfl (by decide) (by decide) ?_
        refine r_iclt (tgt := 70) (pc2 := 61) dX11_run_58 rfl (by decide) ⟨by omega, by omega⟩ ⟨by omega, by omega⟩ (fun b_58 => ?_) (fun b_58 => ?_)
        · refine r_aload0 (pc2 := 71) dX11_run_70 rfl ?_
          refine r_getR (pc2 := 74) dX11_run_71 rfl fX11_28 (hK_2 hS8) (hR_2_2 hS8) ?_
          refine r_getR (pc2 := 77) dX11_run_74 rfl fX11_152 (hK_19 hS8) (hR_19_5 hS8) ?_
          refine r_iload5 (pc2 := 79) dX11_run_77 rfl ?_
          refine r_iald (z := (x.1.1.2.2.2.1 y.toNat)) (pc2 := 80) dX11_run_79 rfl (hK_25 hS8) (y).toNat (by omega) (by omega) (hlv (by omega)).1 ?_
          refine r_istore3 (pc2 := 81) dX11_run_80 rfl rfl ?_
          refine r_iload3 (pc2 := 82) dX11_run_81 rfl ?_
          refine r_iconst (pc2 := 83) dX11_run_82 rfl ?_
          refine r_icne (tgt := 88) (pc2 := 86) dX11_run_83 rfl (by decide) ⟨by omega, by omega⟩ ⟨by omega, by omega⟩ (fun b_83 => ?_) (fun b_83 => ?_)
          · refine r_iinc4 (z := ((i + 1 : Nat) : Int)) (pc2 := 91) dX11_run_88 rfl (by omega) rfl ?_
            refine r_goto (tgt := 26) dX11_run_91 (by decide) ?_
            have hl9 := hlv (by omega)
            obtain ⟨h2, e2⟩ : ∃ h2 : Nat, h2 = (x.1.1.2.2.2.1 y.toNat).toNat := ⟨_, rfl⟩
            have e3 : x.1.1.2.2.2.1 y.toNat = ((h2 : Nat) : Int) := by omega
            rw [e3]
            have e9 : rnL (m + 1) h x = rnL m h2 (rn1 x h) := by rw [eL, if_neg (by omega), if_neg (by omega), if_neg (by omega), e2]
            refine ih (i + 1) h2 (rn1 x h) M8 _ (by omega) (by omega) (rn1_ok hx hh (by omega)) hS8 c8 l8 (by show x.2.2 + 1 + m ≤ 2000000000; omega) (hf.tr f8) (Or.inr ⟨z8, w8⟩) (fun v M2 q1 q2 q3 => ?_)
            obtain ⟨r1, r2, r3, r4, r5⟩ := q1
            have q4 : M2.2.1 263 0 = -1 ∧ M2.2.1 266 4 = 0 := by rcases r5 with ⟨r5, -⟩ | r5; rw [r5]; exact ⟨z8, w8⟩; exact r5
            exact hQ v M2 ⟨by rw [e9]; exact r1, by rw [e9]; exact r2, by rw [e9]; exact r3, f8.tr r4, Or.inr q4⟩ q2 (Or.inr q4)
          · refine r_iconst (pc2 := 87) dX11_run_86 rfl ?_
            refine r_ireti dX11_run_87 rfl ?_
            have hl9 := hlv (by omega)
            have e9 : rnL (m + 1) h x = (1, rn1 x h) := by rw [eL, if_neg (by omega), if_neg (by omega), if_pos (by omega)]
            refine hQ _ M8 ⟨by rw [e9], by rw [e9]; exact c8, by rw [e9]; exact l8, f8, Or.inr ⟨z8, w8⟩⟩ (hf.tr f8) (Or.inr ⟨z8, w8⟩)
        · refine r_iconst (pc2 := 62) dX11_run_61 rfl ?_
          refine r_iload5 (pc2 := 64) dX11_run_62 rfl ?_
          refine r_sipush (pc2 := 67) dX11_run_64 rfl (by decide) (by decide) ?_
          refine r_idiv (pc2 := 68) dX11_run_67 rfl (by omega) (by omega) (by omega) (by omega) ?_
          refine r_iadd (c := (1 + (y / 256))) (pc2 := 69) dX11_run_68 rfl rfl ?_
          refine r_ireti dX11_run_69 rfl ?_
          have e9 : rnL (m + 1) h x = (1 + y / 256, rn1 x h) := by rw [eL, if_neg (by omega), if_pos (by omega)]
          refine hQ _ M8 ⟨by rw [e9], by rw [e9]; exact c8, by rw [e9]; exact l8, f8, Or.inr ⟨z8, w8⟩⟩ (hf.tr f8) (Or.inr ⟨z8, w8⟩)
      · refine r_iconst (pc2 := 45) dX11_run_44 rfl ?_
        refine r_ireti dX11_run_45 rfl ?_
        refine hQ _ M ⟨by rw [eL, if_pos (by omega)], by rw [eL, if_pos (by omega)]; exact hC, by rw [eL, if_pos (by omega)]; exact hL, frR.rf, ?_⟩ hf hz
        rcases hz with hz | hz
        · exact Or.inl ⟨rfl, by rw [hz.2]; rfl⟩
        · exact Or.inr hz
