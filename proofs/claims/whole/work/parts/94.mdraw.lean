/-! the model's draw -/
theorem stn_rd {T : tD} : ∀ {j m : Nat} {x y : pS2}, stn T j x y → rdn T y → rdn T (itr T m x) → itr T m x = y := by
  intro j
  induction j with
  | zero =>
    intro m x y h hy _
    rw [← show x = y from h] at hy ⊢
    cases m with
    | zero => rfl
    | succ m => exact itr_y hy
  | succ j ih =>
    intro m x y h hy hm
    cases m with
    | zero => exact absurd hm h.1
    | succ m => rw [itr_n h.1] at hm ⊢; exact ih h.2 hy hm
abbrev txT (s : Nat → Int) (L : Nat) : tD := ((tk s L).1, tokK s L, tokS s L, tokV s L, tokI s L)
theorem rdF_of {s : Nat → Int} {L j : Nat} {y : pS2} (hL : L ≤ 1000) (h : stn (txT s L) j ((0, 0), gG0) y) (hy : rdn (txT s L) y) : rdF s L = y := by
  have hT : tOk (txT s L) := tok_TOK hL
  exact stn_rd h hy (itr_end hT 1001 _ rSt_0 (by show (tk s L).1 < 0 + 1001; have := hT.1; have h9 : (txT s L).1 = (tk s L).1 := rfl; omega) (by omega))
theorem rdF_st {s : Nat → Int} {L : Nat} (hL : L ≤ 1000) : rSt (txT s L) (rdF s L) ∧ rdn (txT s L) (rdF s L) := by
  have hT : tOk (txT s L) := tok_TOK hL
  exact ⟨itr_st hT _ _ rSt_0, itr_end hT 1001 _ rSt_0 (by show (tk s L).1 < 0 + 1001; have := hT.1; have h9 : (txT s L).1 = (tk s L).1 := rfl; omega) (by omega)⟩
/-- what can't stand outside of ( ) -/
theorem pst_no {T : tD} {r : rdT} {G : gPr} (hr : 0 ≤ r.2) (hD : gD G = 0) (hn : ¬ lst T (r, G)) (h22 : ¬ kK T r.1 = 22) : (pst T (r, G)).1 = fl T 1 r := by
  have e : pst T (r, G) = lClose T r G := by
    unfold lst at hn
    unfold pst
    dsimp only at hn ⊢
    rw [if_neg (by omega), if_neg (by omega), if_neg (by omega), if_neg (by omega), if_neg (by omega), if_neg (by omega), if_neg (by omega)]
  have hf : ¬ (fl T 1 r).2 = 0 := fl_f (by omega) hr
  rw [e]
  unfold lClose
  rw [if_pos hD, rK_n hf, rK_n hf]
/-! boards 0 to 25 -/
abbrev bS : Type := bD × (Nat → Int)
def MB (M : pM) (B : Nat → bS) : Prop := ∀ i, i < 26 → MD M i (B i).1 (B i).2
theorem MB.cp {M M2 : pM} {B : Nat → bS} {s t : Nat} (h : MB M B) (hs : s < 26) (hc : mCp M M2 s t) : MB M2 (va_up B t (B s)) := by
  intro i hi
  by_cases e : i = t
  · rw [e, up_at]; exact (h s hs).cp hc
  · rw [up_ne e]; exact (h i hi).cpo hc e
theorem MB.ofl {l : List Nat} {M M2 : pM} {B : Nat → bS} (h : MB M B) (hf : fr l M M2) (hl : ∀ a, a ∈ [328, 329, 330, 331, 332, 333, 334] → a ∉ l) : MB M2 B := fun i hi => (h i hi).ofl hf hl
theorem MB.eq {M : pM} {B B2 : Nat → bS} (h : MB M B) (e : ∀ i, i < 26 → B i = B2 i) : MB M B2 := fun i hi => by rw [← e i hi]; exact h i hi
theorem MB.q {M : pM} {B : Nat → bS} {z : Int} (h : MB M B) (h1 : M.2.1 317 24 = 0) (h2 : M.2.1 317 25 = 0) (h3 : M.2.1 317 26 = 0) : MQq M (s0Q (B 0).1 (B 0).2) := by
  have h9 := h 0 (by omega)
  refine ⟨⟨fun q hq => ?_, fun q hq => ?_, fun q hq => ?_⟩, h1, h2, h3⟩
  · have := h9.1 q hq; rw [show 156 * 0 + q = q by omega] at this; exact this
  · have := h9.2.1 q hq; rw [show 4 * 0 + q = q by omega] at this; exact this
  · have := h9.2.2 q hq; rw [show 13 * 0 + q = q by omega] at this; exact this
theorem MB.fq {M M2 : pM} {B : Nat → bS} {s : qS} (h : MB M B) (hf : frQ M M2) (hq : MQq M2 s) : MB M2 (va_up B 0 (s.1, s.2.1)) := by
  intro i hi
  by_cases e : i = 0
  · rw [e, up_at]
    refine ⟨fun q hq9 => ?_, fun q hq9 => ?_, fun q hq9 => ?_⟩
    · rw [show 156 * 0 + q = q by omega]; exact hq.1.1 q hq9
    · rw [show 4 * 0 + q = q by omega]; exact hq.1.2.1 q hq9
    · rw [show 13 * 0 + q = q by omega]; exact hq.1.2.2 q hq9
  · rw [up_ne e]
    have h9 := h i hi
    refine ⟨fun q hq9 => ?_, fun q hq9 => ?_, fun q hq9 => ?_⟩
    · rw [hf.2.2 328 _ (by unfold okQ; omega), hf.2.2 329 _ (by unfold okQ; omega), hf.2.2 330 _ (by unfold okQ; omega)]; exact h9.1 q hq9
    · rw [hf.2.2 333 _ (by unfold okQ; omega), hf.2.2 332 _ (by unfold okQ; omega), hf.2.2 334 _ (by unfold okQ; omega)]; exact h9.2.1 q hq9
    · rw [hf.2.2 331 _ (by unfold okQ; omega)]; exact h9.2.2 q hq9
def shB (n : Nat) (B : Nat → bS) : Nat → bS := fun i => if 5 ≤ i ∧ i < 5 + n then B (i + 1) else B i
theorem shB_s {n : Nat} {B : Nat → bS} : va_up (shB n B) (5 + n) (shB n B (5 + n + 1)) = shB (n + 1) B := by
  funext i
  unfold shB
  by_cases e : i = 5 + n
  · rw [e, up_at, if_neg (by omega), if_pos (by omega)]
  · rw [up_ne e]
    by_cases c : 5 ≤ i ∧ i < 5 + n
    · rw [if_pos c, if_pos (by omega)]
    · rw [if_neg c, if_neg (by omega)]
def keB (k : Nat) (B : Nat → bS) : Nat → bS := if k = 20 then va_up (shB 19 B) 24 (B 25) else va_up B (5 + k) (B 25)
def keN (k : Nat) : Nat := if k = 20 then 20 else k + 1
def frK (M M2 : pM) : Prop := fr [317, 328, 329, 330, 331, 332, 333, 334] M M2 ∧ ∀ j, j ≠ 28 → M2.2.1 317 j = M.2.1 317 j
theorem frK.tr {M M1 M2 : pM} (h : frK M M1) (h2 : frK M1 M2) : frK M M2 := ⟨h.1.tr h2.1, fun j hj => (h2.2 j hj).trans (h.2 j hj)⟩
theorem frK.cp {M M2 : pM} {s t : Nat} (h : mCp M M2 s t) : frK M M2 := ⟨h.1.mono (by decide), fun j _ => by rw [h.1.i (by decide)]⟩
theorem frK.I {M : pM} {z : Int} : frK M (pI M 317 28 z) := ⟨fr.rf.I (by decide), fun j hj => pI_nk hj⟩
set_option maxHeartbeats 4000000 in
theorem lp_X12_keeps {d : Nat} {Q : pQ} (M0 : pM) (hS0 : sOk M0.1) (B : Nat → bS) (hQ : ∀ M, frK M0 M → M.2.1 317 28 = M0.2.1 317 28 → MB M (shB 19 B) → Go (Ct (d + 1)) Q yX12_keeps cX12_keeps none 0 0 31 [some (.ref 317), some (.int (iI 24))] [] M) :
    ∀ (m n : Nat) (M : pM), n + m = 19 → frK M0 M → M.2.1 317 28 = M0.2.1 317 28 → MB M (shB n B) → Go (Ct (d + 1)) Q yX12_keeps cX12_keeps none 0 0 11 [some (.ref 317), some (.int (iI ((5 + n : Nat) : Int)))] [] M := by
  intro m
  induction m with
  | zero =>
    intro n M hm hf h28 hB
    obtain rfl : n = 19 := by omega
    have hS := hf.1.ok hS0
    refine r_iload1 (pc2 := 12) dX12_keeps_11 rfl ?_
    refine r_bipush (pc2 := 14) dX12_keeps_12 rfl (by decide) (by decide) ?_
    refine r_icge (tgt := 31) (pc2 := 17) dX12_keeps_14 rfl (by decide) ⟨by omega, by omega⟩ ⟨by omega, by omega⟩ (fun b_14 => ?_) (fun b_14 => ?_)
    · exact hQ M hf h28 hB
    · exact absurd b_14 (by omega)
  | succ m ih =>
    intro n M hm hf h28 hB
    have hS := hf.1.ok hS0
    refine r_iload1 (pc2 := 12) dX12_keeps_11 rfl ?_
    refine r_bipush (pc2 := 14) dX12_keeps_12 rfl (by decide) (by decide) ?_
    refine r_icge (tgt := 31) (pc2 := 17) dX12_keeps_14 rfl (by decide) ⟨by omega, by omega⟩ ⟨by omega, by omega⟩ (fun b_14 => ?_) (fun b_14 => ?_)
    · exact absurd b_14 (by omega)
    · refine r_aload0 (pc2 := 18) dX12_keeps_17 rfl ?_
      refine r_iload1 (pc2 := 19) dX12_keeps_18 rfl ?_
      refine r_iconst (pc2 := 20) dX12_keeps_19 rfl ?_
      refine r_iadd (c := ((5 + n + 1 : Nat) : Int)) (pc2 := 21) dX12_keeps_20 rfl (by omega) ?_
      refine r_iload1 (pc2 := 22) dX12_keeps_21 rfl ?_
      refine r_cv2 (pc2 := 25) dX12_keeps_22 rfl vX12_256 (hK_317 hS) (by decide) (c_X12_copies (d := d) (s := 5 + n + 1) (t := 5 + n) hS (by omega) (by omega)) ?_
      rintro _ M9 ⟨rfl, h9⟩
      show Go (Ct (d + 1)) _ yX12_keeps cX12_keeps none 0 0 25 [some (.ref 317), some (.int (iI ((5 + n : Nat) : Int)))] [] M9
      refine r_iinc1 (z := ((5 + n + 1 : Nat) : Int)) (pc2 := 28) dX12_keeps_25 rfl (by omega) rfl ?_
      refine r_goto (tgt := 11) dX12_keeps_28 (by decide) ?_
      refine ih (n + 1) M9 (by omega) (hf.tr (frK.cp h9)) (by rw [h9.1.i (by decide)]; exact h28) ?_
      rw [← shB_s]
      exact hB.cp (by omega) h9
set_option maxHeartbeats 4000000 in
theorem c_X12_keeps {d : Nat} {M : pM} {k : Nat} {B : Nat → bS} (hS : sOk M.1) (hk : M.2.1 317 28 = (k : Int)) (hk2 : k ≤ 20) (hB : MB M B) : Ct (d + 2) 0 0 yX12_keeps [.ref 317] M (fun v M2 => v = none ∧ frK M M2 ∧ M2.2.1 317 28 = ((keN k : Nat) : Int) ∧ MB M2 (keB k B)) := by
  refine ct_in (d := (d + 1)) kX12_keeps rfl (by decide) (Nat.le_of_ble_eq_true rfl) (by decide) ?_
  show Go (Ct (d + 1)) _ yX12_keeps cX12_keeps none 0 0 0 [some (.ref 317), none] [] M
  refine r_aload0 (pc2 := 1) dX12_keeps_0 rfl ?_
  refine r_getI (z := ((k : Nat) : Int)) (pc2 := 4) dX12_keeps_1 rfl (Or.inl fX12_279) (hK_317 hS) hk ?_
  refine r_bipush (pc2 := 6) dX12_keeps_4 rfl (by decide) (by decide) ?_
  refine r_icne (tgt := 41) (pc2 := 9) dX12_keeps_6 rfl (by decide) ⟨by omega, by omega⟩ ⟨by omega, by omega⟩ (fun b_6 => ?_) (fun b_6 => ?_)
  · refine r_aload0 (pc2 := 42) dX12_keeps_41 rfl ?_
    refine r_bipush (pc2 := 44) dX12_keeps_42 rfl (by decide) (by decide) ?_
    refine r_iconst (pc2 := 45) dX12_keeps_44 rfl ?_
    refine r_aload0 (pc2 := 46) dX12_keeps_45 rfl ?_
    refine r_getI (z := ((k : Nat) : Int)) (pc2 := 49) dX12_keeps_46 rfl (Or.inl fX12_279) (hK_317 hS) hk ?_
    refine r_iadd (c := ((5 + k : Nat) : Int)) (pc2 := 50) dX12_keeps_49 rfl (by omega) ?_
    refine r_cv2 (pc2 := 53) dX12_keeps_50 rfl vX12_256 (hK_317 hS) (by decide) (c_X12_copies (d := d) (s := 25) (t := 5 + k) hS (by decide) (by omega)) ?_
    rintro _ M9 ⟨rfl, h9⟩
    show Go (Ct (d + 1)) _ yX12_keeps cX12_keeps none 0 0 53 [some (.ref 317), none] [] M9
    refine r_aload0 (pc2 := 54) dX12_keeps_53 rfl ?_
    refine r_dup (pc2 := 55) dX12_keeps_54 rfl rfl ?_
    refine r_getI (z := ((k : Nat) : Int)) (pc2 := 58) dX12_keeps_55 rfl (Or.inl fX12_279) (hK_317 (h9.1.ok hS)) (by rw [h9.1.i (by decide)]; exact hk) ?_
    refine r_iconst (pc2 := 59) dX12_keeps_58 rfl ?_
    refine r_iadd (c := ((k + 1 : Nat) : Int)) (pc2 := 60) dX12_keeps_59 rfl (by omega) ?_
    refine r_putI (z := ((k + 1 : Nat) : Int)) (pc2 := 63) dX12_keeps_60 rfl fX12_279 (w12_28 _) (hK_317 (h9.1.ok hS)) (by decide) ?_
    refine r_ret dX12_keeps_63 rfl ?_
    refine ⟨rfl, (frK.cp h9).tr frK.I, by rw [pI_at]; unfold keN; rw [if_neg (by omega)], ?_⟩
    unfold keB
    rw [if_neg (by omega)]
    exact (hB.cp (by decide) h9).ofl (fr.rf.I (show 317 ∈ [317] by decide)) (by decide)
  · refine r_iconst (pc2 := 10) dX12_keeps_9 rfl ?_
    refine r_istore1 (pc2 := 11) dX12_keeps_10 rfl rfl ?_
    refine lp_X12_keeps M hS B (fun M1 hf1 h28 hB1 => ?_) 19 0 M (by omega) ⟨fr.rf, fun _ _ => rfl⟩ rfl (hB.eq (fun i hi => (if_neg (by omega)).symm))
    refine r_aload0 (pc2 := 32) dX12_keeps_31 rfl ?_
    refine r_dup (pc2 := 33) dX12_keeps_32 rfl rfl ?_
    refine r_getI (z := 20) (pc2 := 36) dX12_keeps_33 rfl (Or.inl fX12_279) (hK_317 (hf1.1.ok hS)) (by rw [h28, hk]; omega) ?_
    refine r_iconst (pc2 := 37) dX12_keeps_36 rfl ?_
    refine r_isub (c := 19) (pc2 := 38) dX12_keeps_37 rfl rfl ?_
    refine r_putI (z := 19) (pc2 := 41) dX12_keeps_38 rfl fX12_279 (w12_28 _) (hK_317 (hf1.1.ok hS)) (by decide) ?_
    refine r_aload0 (pc2 := 42) dX12_keeps_41 rfl ?_
    refine r_bipush (pc2 := 44) dX12_keeps_42 rfl (by decide) (by decide) ?_
    refine r_iconst (pc2 := 45) dX12_keeps_44 rfl ?_
    refine r_aload0 (pc2 := 46) dX12_keeps_45 rfl ?_
    refine r_getI (z := 19) (pc2 := 49) dX12_keeps_46 rfl (Or.inl fX12_279) (hK_317 (hf1.1.ok hS)) rfl ?_
    refine r_iadd (c := (5 + 19)) (pc2 := 50) dX12_keeps_49 rfl rfl ?_
    refine r_cv2 (pc2 := 53) dX12_keeps_50 rfl vX12_256 (hK_317 (hf1.1.ok hS)) (by decide) (c_X12_copies (d := d) (s := 25) (t := 24) (hf1.1.ok hS) (by decide) (by decide)) ?_
    rintro _ M9 ⟨rfl, h9⟩
    show Go (Ct (d + 1)) _ yX12_keeps cX12_keeps none 0 0 53 [some (.ref 317), some (.int (iI 24))] [] M9
    refine r_aload0 (pc2 := 54) dX12_keeps_53 rfl ?_
    refine r_dup (pc2 := 55) dX12_keeps_54 rfl rfl ?_
    refine r_getI (z := 19) (pc2 := 58) dX12_keeps_55 rfl (Or.inl fX12_279) (hK_317 (h9.1.ok (hf1.1.ok hS))) (by rw [h9.1.i (by decide)]; exact pI_at) ?_
    refine r_iconst (pc2 := 59) dX12_keeps_58 rfl ?_
    refine r_iadd (c := 20) (pc2 := 60) dX12_keeps_59 rfl rfl ?_
    refine r_putI (z := 20) (pc2 := 63) dX12_keeps_60 rfl fX12_279 (w12_28 _) (hK_317 (h9.1.ok (hf1.1.ok hS))) (by decide) ?_
    refine r_ret dX12_keeps_63 rfl ?_
    refine ⟨rfl, (hf1.tr frK.I).tr ((frK.cp h9).tr frK.I), by rw [pI_at]; unfold keN; rw [if_pos (by omega)]; rfl, ?_⟩
    have h7 : MB (pI M1 317 28 19) (shB 19 B) := hB1.ofl (fr.rf.I (show 317 ∈ [317] by decide)) (by decide)
    have h8 := h7.cp (by decide) h9
    rw [show shB 19 B 25 = B 25 from if_neg (by decide)] at h8
    unfold keB
    rw [if_pos (by omega)]
    exact h8.ofl (fr.rf.I (show 317 ∈ [317] by decide)) (by decide)
