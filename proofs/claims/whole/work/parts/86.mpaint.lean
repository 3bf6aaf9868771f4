/-! the model does a program -/
def qOk2 (s : qS) : Prop := qOk s ∧ (s.2.2.2.2 = 0 → s.2.2.1 ≤ 2000)
theorem agn_ok {f : Int → Int → qS → qS} {sx sy : Int} (hf : ∀ ax ay s, qOk2 s → qOk2 (f ax ay s)) : ∀ n dx dy s, qOk2 s → qOk2 (agn f sx sy n dx dy s) := by
  intro n
  induction n with
  | zero => intro dx dy s h; exact h
  | succ n ih => intro dx dy s h; rw [agn]; split; exact ih _ _ _ (hf _ _ _ h); exact h
theorem qPut_ld {k z x y m : Int} {s : qS} : (qPut k z x y m s).2.2.1 = s.2.2.1 := by unfold qPut; (repeat' split) <;> rfl
theorem qLine_ok {G : gPr} {u ns : Nat → Nat} {rec : Nat → Nat → Int → Int → Int → qS → qS} {i : Nat} {m dx dy : Int} {s : qS} (hP : PV G u ns) (hi : i < gS G) (hrec : ∀ a b m ax ay s, b ≤ gS G → qOk2 s → qOk2 (rec a b m ax ay s)) (h : qOk s) (h0 : s.2.2.2.2 = 0) (hl : s.2.2.1 ≤ 2000) (hp : s.2.2.2.1 < s.2.2.1) : qOk2 (qLine G rec i m dx dy s) := by
  have h2 : qOk2 s := ⟨h, fun _ => hl⟩
  have hv := hP.2.2.2.2 i hi
  have hL := hv.2.2.2.1
  have hE := hv.2.2.1
  unfold qLine
  split
  · rename_i c
    have h9 := hL.1 c
    exact ⟨qPut_ok h h0 h9.1 h9.2.2.2.1 h9.2.2.2.2.1 h9.2.2.2.2.2.1 h9.2.2.2.2.2.2 hp, fun _ => by rw [qPut_ld]; exact hl⟩
  split
  · exact agn_ok (fun ax ay s h => hrec _ _ _ _ _ _ (by omega) h) _ _ _ _ h2
  split
  · exact hrec _ _ _ _ _ _ (by omega) h2
  split
  · rename_i c
    obtain ⟨k, k1, k2⟩ := (hL.2.2.2.1 c).1
    have h9 := hv.2.2.2.2.1
    have h8 := (hP.2.1 k (by omega)).2.1
    have h7 := (hP.2.2.2.2 _ h8).2.2.1
    exact hrec _ _ _ _ _ _ (by rw [k2]; show (gE G (gL G k)).toNat ≤ gS G; omega) h2
  split
  · rename_i c
    exact ⟨qLane_ok h (hL.2.2.2.2.1 c).2, fun _ => hl⟩
  split
  · rename_i c
    have h9 := hL.2.2.2.2.2 c
    exact ⟨qHop_ok h (by omega) h9.2.2.1 h9.2.2.2, fun _ => hl⟩
  exact h2
theorem qLd_ok {s : qS} (h : qOk2 s) (h0 : s.2.2.2.2 = 0) : qOk (qLd s) ∧ (qLd s).2.2.2.2 = 0 ∧ (qLd s).2.2.2.1 < (qLd s).2.2.1 := by
  have h9 := h.2 h0
  obtain ⟨h1, h2, h3, h4, h5⟩ := h.1
  exact ⟨⟨h1, h2, by show s.2.2.1 + 1 ≤ 2001; omega, by show s.2.2.2.1 ≤ s.2.2.1 + 1; omega, h5⟩, h0, by show s.2.2.2.1 < s.2.2.1 + 1; omega⟩
theorem dos_ok {G : gPr} {u ns : Nat → Nat} (hP : PV G u ns) : ∀ (f i e : Nat) (m dx dy : Int) (s : qS), e ≤ gS G → qOk2 s → qOk2 (dos G f i e m dx dy s) := by
  intro f
  induction f with
  | zero => intro i e m dx dy s he h; exact h
  | succ f ih =>
    intro i e m dx dy s he h
    by_cases c : i < e ∧ s.2.2.2.2 = 0
    · have h1 := qLd_ok h c.2
      by_cases c2 : 2000 < s.2.2.1 + 1
      · rw [dos_4 c.1 c.2 c2]
        obtain ⟨g1, g2, g3, g4, g5⟩ := h1.1
        exact ⟨⟨g1, g2, g3, g4, by show (0 : Int) ≤ 4; decide, by show (4 : Int) ≤ 4; decide⟩, fun q => absurd q (by show ¬ (4 : Int) = 0; decide)⟩
      · rw [dos_y c.1 c.2 c2]
        exact ih _ _ _ _ _ _ he (qLine_ok hP (by omega) (fun a b m ax ay s hb hs => ih _ _ _ _ _ _ hb hs) h1.1 h1.2.1 (by show s.2.2.1 + 1 ≤ 2000; omega) h1.2.2)
    · rw [dos_n c]; exact h
/-- what the model's board 0 and its counts tell -/
def MQq (M : pM) (s : qS) : Prop := ((∀ p, p < 156 → M.2.1 328 p = s.1.1.1 p ∧ M.2.1 329 p = s.1.1.2 p ∧ M.2.1 330 p = s.2.1 p) ∧ (∀ h, h < 4 → M.2.1 333 h = s.1.2.1 h ∧ M.2.1 332 h = ((s.1.2.2.1 h : Nat) : Int) ∧ M.2.1 334 h = s.1.2.2.2.2 h) ∧ ∀ x, x < 13 → M.2.1 331 x = s.1.2.2.2.1 x) ∧ M.2.1 317 24 = s.2.2.2.2 ∧ M.2.1 317 25 = ((s.2.2.1 : Nat) : Int) ∧ M.2.1 317 26 = ((s.2.2.2.1 : Nat) : Int)
def okQ (a k : Nat) : Prop := (a = 317 ∧ (k = 24 ∨ k = 25 ∨ k = 26)) ∨ (328 ≤ a ∧ a ≤ 330 ∧ k < 156) ∨ (a = 331 ∧ k < 13) ∨ (332 ≤ a ∧ a ≤ 334 ∧ k < 4)
def frQ (M M2 : pM) : Prop := M2.1 = M.1 ∧ M2.2.2 = M.2.2 ∧ ∀ a k, ¬ okQ a k → M2.2.1 a k = M.2.1 a k
theorem frQ.rf {M : pM} : frQ M M := ⟨rfl, rfl, fun _ _ _ => rfl⟩
theorem frQ.tr {M M1 M2 : pM} (h : frQ M M1) (h2 : frQ M1 M2) : frQ M M2 := ⟨h2.1.trans h.1, h2.2.1.trans h.2.1, fun a k q => (h2.2.2 a k q).trans (h.2.2 a k q)⟩
theorem frQ.I {M M1 : pM} {a k : Nat} {z : Int} (h : frQ M M1) (ho : okQ a k) : frQ M (pI M1 a k z) := ⟨h.1, h.2.1, fun b j q => by
  by_cases e : b = a
  · subst e
    by_cases e2 : j = k
    · subst e2; exact absurd ho q
    · rw [pI_nk e2]; exact h.2.2 b j q
  · rw [pI_ne e]; exact h.2.2 b j q⟩
theorem frQ.ok {M M2 : pM} (h : frQ M M2) (hS : sOk M.1) : sOk M2.1 := by rw [h.1]; exact hS
theorem MG.fq {M M2 : pM} {G : gPr} (h : MG M G) (hf : frQ M M2) : MG M2 G := by
  obtain ⟨h1, h2, h3, h4⟩ := h
  have e : ∀ a k, 323 ≤ a → a ≤ 327 → M2.2.1 a k = M.2.1 a k := fun a k a1 a2 => hf.2.2 a k (by unfold okQ; omega)
  refine ⟨?_, ?_, fun i hi => ⟨?_, ?_, ?_⟩, fun k hk => ⟨?_, ?_⟩⟩
  · rw [hf.2.2 317 10 (by unfold okQ; omega)]; exact h1
  · rw [hf.2.2 317 14 (by unfold okQ; omega)]; exact h2
  · rw [e 323 i (by omega) (by omega)]; exact (h3 i hi).1
  · rw [e 325 i (by omega) (by omega)]; exact (h3 i hi).2.1
  · have h9 := (h3 i hi).2.2
    unfold mArg at h9 ⊢
    rw [e 324 _ (by omega) (by omega), e 324 _ (by omega) (by omega), e 324 _ (by omega) (by omega), e 324 _ (by omega) (by omega)]
    exact h9
  · rw [hf.2.1]; exact (h4 k hk).1
  · rw [e 327 k (by omega) (by omega)]; exact (h4 k hk).2
theorem MQq.re {M : pM} {s : qS} {z : Int} (h : MQq M s) : MQq (pI M 317 24 z) (qRe s z) := by
  obtain ⟨h1, h2, h3, h4⟩ := h
  refine ⟨?_, pI_at, ?_, ?_⟩
  · rw [pI_ne (by decide), pI_ne (by decide), pI_ne (by decide), pI_ne (by decide), pI_ne (by decide), pI_ne (by decide), pI_ne (by decide)]; exact h1
  · rw [pI_nk (by decide)]; exact h3
  · rw [pI_nk (by decide)]; exact h4
theorem MQq.set {M : pM} {s : qS} {q : Nat} {K Z V : Int} (h : MQq M s) (hq : q < 156) : MQq (pI (pI (pI (pI (pI M 317 24 0) 328 q K) 329 q Z) 330 q V) 317 26 ((s.2.2.2.1 + 1 : Nat) : Int)) (qSet s q K Z V) := by
  obtain ⟨h1, h2, h3, h4⟩ := h
  refine ⟨⟨fun p hp => ?_, fun x hx => ?_, fun x hx => ?_⟩, ?_, ?_, ?_⟩
  · show _ = va_up s.1.1.1 q K p ∧ _ = va_up s.1.1.2 q Z p ∧ _ = va_up s.2.1 q V p
    rw [pI_ne (show (328 : Nat) ≠ 317 by decide), pI_ne (show (328 : Nat) ≠ 330 by decide), pI_ne (show (328 : Nat) ≠ 329 by decide), pI_eq, pI_ne (show (328 : Nat) ≠ 317 by decide), pI_ne (show (329 : Nat) ≠ 317 by decide), pI_ne (show (329 : Nat) ≠ 330 by decide), pI_eq, pI_ne (show (329 : Nat) ≠ 328 by decide), pI_ne (show (329 : Nat) ≠ 317 by decide), pI_ne (show (330 : Nat) ≠ 317 by decide), pI_eq, pI_ne (show (330 : Nat) ≠ 329 by decide), pI_ne (show (330 : Nat) ≠ 328 by decide), pI_ne (show (330 : Nat) ≠ 317 by decide)]
    by_cases e : p = q
    · subst e; rw [up_at, up_at, up_at, up_at, up_at, up_at]; exact ⟨rfl, rfl, rfl⟩
    · rw [up_ne e, up_ne e, up_ne e, up_ne e, up_ne e, up_ne e]; exact h1.1 p hp
  · simp only [pI_ne (by decide : (333 : Nat) ≠ 317), pI_ne (by decide : (333 : Nat) ≠ 328), pI_ne (by decide : (333 : Nat) ≠ 329), pI_ne (by decide : (333 : Nat) ≠ 330), pI_ne (by decide : (332 : Nat) ≠ 317), pI_ne (by decide : (332 : Nat) ≠ 328), pI_ne (by decide : (332 : Nat) ≠ 329), pI_ne (by decide : (332 : Nat) ≠ 330), pI_ne (by decide : (334 : Nat) ≠ 317), pI_ne (by decide : (334 : Nat) ≠ 328), pI_ne (by decide : (334 : Nat) ≠ 329), pI_ne (by decide : (334 : Nat) ≠ 330)]
    exact h1.2.1 x hx
  · rw [pI_ne (by decide), pI_ne (by decide), pI_ne (by decide), pI_ne (by decide), pI_ne (by decide)]; exact h1.2.2 x hx
  · rw [pI_nk (by decide), pI_ne (by decide), pI_ne (by decide), pI_ne (by decide), pI_at]; rfl
  · rw [pI_nk (by decide), pI_ne (by decide), pI_ne (by decide), pI_ne (by decide), pI_nk (by decide)]; exact h3
  · exact pI_at
theorem qPut_y {k z x y m K Z V : Int} {s : qS} {q : Nat} (hq : q = (13 * y + x).toNat) (c1 : 0 ≤ x ∧ x < 13 ∧ 0 ≤ y ∧ y < 12) (c2 : s.1.1.1 q = 0) (c3 : ¬ ((k = 4 ∨ k = 7 ∨ k = 9) ∧ mvc s.1.1.1 156 = 16)) (e1 : kMir m k = K) (e2 : (if k = 4 ∨ k = 9 then 0 else z) = Z) (e3 : (if k = 4 ∨ k = 9 then (if m = 1 then 1 - z else z) else 0) = V) : qPut k z x y m s = qSet s q K Z V := by
  subst hq
  unfold qPut
  rw [if_neg (fun c => c c1), if_neg (fun c => c c2), if_neg c3, e1, e2, e3]
theorem mvc_le {pc : Nat → Int} : ∀ q, mvc pc q ≤ q := by
  intro q
  induction q with
  | zero => exact Nat.le_refl _
  | succ q ih => rw [mvc]; split <;> omega
set_option maxHeartbeats 4000000 in
theorem lp_X12_movingOn {d : Nat} {Q : pQ} {pc : Nat → Int} {M : pM} (hS : sOk M.1) (hp : ∀ p, p < 156 → M.2.1 328 p = pc p ∧ 0 ≤ pc p ∧ pc p ≤ 9) (hQ : Q (some (.int (iI ((mvc pc 156 : Nat) : Int)))) M) :
    ∀ (m q : Nat), q + m = 156 → Go (Ct (d + 1)) Q yX12_movingOn cX12_movingOn (some .int) 0 0 8 [some (.ref 317), some (.int (iI 0)), some (.int (iI ((mvc pc q : Nat) : Int))), some (.int (iI ((q : Nat) : Int)))] [] M := by
  intro m
  induction m with
  | zero =>
    intro q hm
    obtain rfl : q = 156 := by omega
    refine r_iload3 (pc2 := 9) dX12_movingOn_8 rfl ?_
    refine r_sipush (pc2 := 12) dX12_movingOn_9 rfl (by decide) (by decide) ?_
    refine r_iload1 (pc2 := 13) dX12_movingOn_12 rfl ?_
    refine r_imul (c := 0) (pc2 := 14) dX12_movingOn_13 rfl rfl ?_
    refine r_sipush (pc2 := 17) dX12_movingOn_14 rfl (by decide) (by decide) ?_
    refine r_iadd (c := 156) (pc2 := 18) dX12_movingOn_17 rfl rfl ?_
    refine r_icge (tgt := 47) (pc2 := 21) dX12_movingOn_18 rfl (by decide) ⟨by omega, by omega⟩ ⟨by omega, by omega⟩ (fun b_18 => ?_) (fun b_18 => ?_)
    · refine r_iload2 (pc2 := 48) dX12_movingOn_47 rfl ?_
      refine r_ireti dX12_movingOn_48 rfl ?_
      exact hQ
    · exact absurd b_18 (by omega)
  | succ m ih =>
    intro q hm
    have h1 := hp q (by omega)
    have h0 : mvc pc q ≤ q := mvc_le (pc := pc) q
    refine r_iload3 (pc2 := 9) dX12_movingOn_8 rfl ?_
    refine r_sipush (pc2 := 12) dX12_movingOn_9 rfl (by decide) (by decide) ?_
    refine r_iload1 (pc2 := 13) dX12_movingOn_12 rfl ?_
    refine r_imul (c := 0) (pc2 := 14) dX12_movingOn_13 rfl rfl ?_
    refine r_sipush (pc2 := 17) dX12_movingOn_14 rfl (by decide) (by decide) ?_
    refine r_iadd (c := 156) (pc2 := 18) dX12_movingOn_17 rfl rfl ?_
    refine r_icge (tgt := 47) (pc2 := 21) dX12_movingOn_18 rfl (by decide) ⟨by omega, by omega⟩ ⟨by omega, by omega⟩ (fun b_18 => ?_) (fun b_18 => ?_)
    · refine r_iload2 (pc2 := 48) dX12_movingOn_47 rfl ?_
      refine r_ireti dX12_movingOn_48 rfl ?_
      exact absurd b_18 (by omega)
    · refine r_iload2 (pc2 := 22) dX12_movingOn_21 rfl ?_
      refine r_aload0 (pc2 := 23) dX12_movingOn_22 rfl ?_
      refine r_getR (pc2 := 26) dX12_movingOn_23 rfl fX12_86 (hK_317 hS) (hR_317_17 hS) ?_
      refine r_iload3 (pc2 := 27) dX12_movingOn_26 rfl ?_
      refine r_iald (z := (pc q)) (pc2 := 28) dX12_movingOn_27 rfl (hK_328 hS) q rfl (by omega) h1.1 ?_
      refine r_cs1 (pc2 := 31) dX12_movingOn_28 rfl sX12_250 (Nat.le_of_ble_eq_true rfl) (c_X12_isMoving (d := d) (k := pc q) ⟨by omega, by omega⟩) ?_
      by_cases hmv : pc q = 4 ∨ pc q = 7 ∨ pc q = 9
      · rintro _ M9 ⟨rfl, h9⟩
        rw [h9, if_pos hmv]
        show Go (Ct (d + 1)) _ yX12_movingOn cX12_movingOn (some .int) 0 0 31 [some (.ref 317), some (.int (iI 0)), some (.int (iI ((mvc pc q : Nat) : Int))), some (.int (iI ((q : Nat) : Int)))] [.int (iI 1), .int (iI ((mvc pc q : Nat) : Int))] M
        refine r_ifeq (tgt := 38) (pc2 := 34) dX12_movingOn_31 rfl (by decide) ⟨by omega, by omega⟩ (fun h9 => absurd h9 (by decide)) (fun _ => ?_)
        refine r_iconst (pc2 := 35) dX12_movingOn_34 rfl ?_
        refine r_goto (tgt := 39) dX12_movingOn_35 (by decide) ?_
        refine r_iadd (c := ((mvc pc q + 1 : Nat) : Int)) (pc2 := 40) dX12_movingOn_39 rfl (by omega) ?_
        refine r_istore2 (pc2 := 41) dX12_movingOn_40 rfl rfl ?_
        refine r_iinc3 (z := ((q + 1 : Nat) : Int)) (pc2 := 44) dX12_movingOn_41 rfl (by omega) rfl ?_
        refine r_goto (tgt := 8) dX12_movingOn_44 (by decide) ?_
        have e9 : mvc pc (q + 1) = mvc pc q + 1 := by rw [mvc, if_pos hmv]
        have h9 := ih (q + 1) (by omega)
        rw [e9] at h9
        exact h9
      · rintro _ M9 ⟨rfl, h9⟩
        rw [h9, if_neg hmv]
        show Go (Ct (d + 1)) _ yX12_movingOn cX12_movingOn (some .int) 0 0 31 [some (.ref 317), some (.int (iI 0)), some (.int (iI ((mvc pc q : Nat) : Int))), some (.int (iI ((q : Nat) : Int)))] [.int (iI 0), .int (iI ((mvc pc q : Nat) : Int))] M
        refine r_ifeq (tgt := 38) (pc2 := 34) dX12_movingOn_31 rfl (by decide) ⟨by omega, by omega⟩ (fun _ => ?_) (fun h9 => absurd h9 (by decide))
        refine r_iconst (pc2 := 39) dX12_movingOn_38 rfl ?_
        refine r_iadd (c := ((mvc pc q + 0 : Nat) : Int)) (pc2 := 40) dX12_movingOn_39 rfl (by omega) ?_
        refine r_istore2 (pc2 := 41) dX12_movingOn_40 rfl rfl ?_
        refine r_iinc3 (z := ((q + 1 : Nat) : Int)) (pc2 := 44) dX12_movingOn_41 rfl (by omega) rfl ?_
        refine r_goto (tgt := 8) dX12_movingOn_44 (by decide) ?_
        have e9 : mvc pc (q + 1) = mvc pc q + 0 := by rw [mvc, if_neg hmv]; rfl
        have h9 := ih (q + 1) (by omega)
        rw [e9] at h9
        exact h9
set_option maxHeartbeats 4000000 in
theorem c_X12_movingOn {d : Nat} {M : pM} {pc : Nat → Int} (hS : sOk M.1) (hp : ∀ p, p < 156 → M.2.1 328 p = pc p ∧ 0 ≤ pc p ∧ pc p ≤ 9) : Ct (d + 2) 0 0 yX12_movingOn [.ref 317, .int (iI 0)] M (fun v M2 => v = some (.int (iI ((mvc pc 156 : Nat) : Int))) ∧ M2 = M) := by
  refine ct_in (d := (d + 1)) kX12_movingOn rfl (by decide) (Nat.le_of_ble_eq_true rfl) (by decide) ?_
  show Go (Ct (d + 1)) _ yX12_movingOn cX12_movingOn (some .int) 0 0 0 [some (.ref 317), some (.int (iI 0)), none, none] [] M
  refine r_iconst (pc2 := 1) dX12_movingOn_0 rfl ?_
  refine r_istore2 (pc2 := 2) dX12_movingOn_1 rfl rfl ?_
  refine r_sipush (pc2 := 5) dX12_movingOn_2 rfl (by decide) (by decide) ?_
  refine r_iload1 (pc2 := 6) dX12_movingOn_5 rfl ?_
  refine r_imul (c := 0) (pc2 := 7) dX12_movingOn_6 rfl rfl ?_
  refine r_istore3 (pc2 := 8) dX12_movingOn_7 rfl rfl ?_
  exact lp_X12_movingOn (d := d) hS hp ⟨rfl, rfl⟩ 156 0 (by omega)
set_option maxHeartbeats 4000000 in
theorem c_X12_puts0 {d : Nat} {M : pM} {i q : Nat} {k z x y dx dy X Y : Int} {s : qS} (hS : sOk M.1) (hQ : MQq M s) (ho : qOk s) (hi : i < 125) (a1 : M.2.1 324 (5 * i) = k) (a2 : M.2.1 324 (5 * i + 1) = z) (a3 : M.2.1 324 (5 * i + 2) = x) (a4 : M.2.1 324 (5 * i + 3) = y) (hk : 1 ≤ k ∧ k ≤ 9) (hz : 0 ≤ z ∧ z ≤ 9) (hX : x + dx = X) (hY : y + dy = Y) (hx2 : -50000 ≤ X ∧ X ≤ 50000) (hy2 : -50000 ≤ Y ∧ Y ≤ 50000) (hq : q = (13 * Y + X).toNat) : Ct (d + 4) 0 0 yX12_puts [.ref 317, .int (iI ((5 * i : Nat) : Int)), .int (iI 0), .int (iI dx), .int (iI dy)] M (fun v M2 => v = none ∧ MQq M2 (qPut k z X Y 0 s) ∧ frQ M M2) := by
  refine ct_in (d := (d + 3)) kX12_puts rfl (by decide) (Nat.le_of_ble_eq_true rfl) (by decide) ?_
  show Go (Ct (d + 3)) _ yX12_puts cX12_puts none 0 0 0 [some (.ref 317), some (.int (iI ((5 * i : Nat) : Int))), some (.int (iI 0)), some (.int (iI dx)), some (.int (iI dy)), none, none, none, none, none] [] M
  have hr := ho.2.2.2.2
  have hpc : 0 ≤ X → X < 13 → 0 ≤ Y → Y < 12 → 0 ≤ s.1.1.1 q ∧ s.1.1.1 q ≤ 9 := fun b1 b2 b3 b4 => bK_pc ho.2.1 q (by omega)
  have hmc := ho.1.2.2
  refine r_aload0 (pc2 := 1) dX12_puts_0 rfl ?_
  refine r_getR (pc2 := 4) dX12_puts_1 rfl fX12_74 (hK_317 hS) (hR_317_12 hS) ?_
  refine r_iload1 (pc2 := 5) dX12_puts_4 rfl ?_
  refine r_iald (z := k) (pc2 := 6) dX12_puts_5 rfl (hK_324 hS) (5 * i) rfl (by omega) a1 ?_
  refine r_istore5 (pc2 := 8) dX12_puts_6 rfl rfl ?_
  refine r_iload2 (pc2 := 9) dX12_puts_8 rfl ?_
  refine r_ifeq (tgt := 24) (pc2 := 12) dX12_puts_9 rfl (by decide) ⟨by omega, by omega⟩ (fun _ => ?_) (fun h9 => absurd h9 (by decide))
  refine r_aload0 (pc2 := 25) dX12_puts_24 rfl ?_
  refine r_getR (pc2 := 28) dX12_puts_25 rfl fX12_74 (hK_317 hS) (hR_317_12 hS) ?_
  refine r_iload1 (pc2 := 29) dX12_puts_28 rfl ?_
  refine r_iconst (pc2 := 30) dX12_puts_29 rfl ?_
  refine r_iadd (c := ((5 * i + 2 : Nat) : Int)) (pc2 := 31) dX12_puts_30 rfl (by omega) ?_
  refine r_iald (z := x) (pc2 := 32) dX12_puts_31 rfl (hK_324 hS) (5 * i + 2) rfl (by omega) a3 ?_
  refine r_iload3 (pc2 := 33) dX12_puts_32 rfl ?_
  refine r_iadd (c := X) (pc2 := 34) dX12_puts_33 rfl hX ?_
  refine r_istore6 (pc2 := 36) dX12_puts_34 rfl rfl ?_
  refine r_aload0 (pc2 := 37) dX12_puts_36 rfl ?_
  refine r_getR (pc2 := 40) dX12_puts_37 rfl fX12_74 (hK_317 hS) (hR_317_12 hS) ?_
  refine r_iload1 (pc2 := 41) dX12_puts_40 rfl ?_
  refine r_iconst (pc2 := 42) dX12_puts_41 rfl ?_
  refine r_iadd (c := ((5 * i + 3 : Nat) : Int)) (pc2 := 43) dX12_puts_42 rfl (by omega) ?_
  refine r_iald (z := y) (pc2 := 44) dX12_puts_43 rfl (hK_324 hS) (5 * i + 3) rfl (by omega) a4 ?_
  refine r_iload4 (pc2 := 46) dX12_puts_44 rfl ?_
  refine r_iadd (c := Y) (pc2 := 47) dX12_puts_46 rfl hY ?_
  refine r_istore7 (pc2 := 49) dX12_puts_47 rfl rfl ?_
  refine r_iload6 (pc2 := 51) dX12_puts_49 rfl ?_
  refine r_iflt (tgt := 73) (pc2 := 54) dX12_puts_51 rfl (by decide) ⟨by omega, by omega⟩ (fun b_51 => ?_) (fun b_51 => ?_)
  · refine r_aload0 (pc2 := 74) dX12_puts_73 rfl ?_
    refine r_iconst (pc2 := 75) dX12_puts_74 rfl ?_
    refine r_putI (z := 1) (pc2 := 78) dX12_puts_75 rfl fX12_260 (w12_24 _) (hK_317 hS) (by decide) ?_
    refine r_ret dX12_puts_78 rfl ?_
    refine ⟨rfl, ?_, frQ.rf.I (by unfold okQ; omega)⟩
    unfold qPut
    rw [if_pos (show ¬ (0 ≤ X ∧ X < 13 ∧ 0 ≤ Y ∧ Y < 12) by omega)]
    exact hQ.re
  · refine r_iload6 (pc2 := 56) dX12_puts_54 rfl ?_
    refine r_bipush (pc2 := 58) dX12_puts_56 rfl (by decide) (by decide) ?_
    refine r_icge (tgt := 73) (pc2 := 61) dX12_puts_58 rfl (by decide) ⟨by omega, by omega⟩ ⟨by omega, by omega⟩ (fun b_58 => ?_) (fun b_58 => ?_)
    · refine r_aload0 (pc2 := 74) dX12_puts_73 rfl ?_
      refine r_iconst (pc2 := 75) dX12_puts_74 rfl ?_
      refine r_putI (z := 1) (pc2 := 78) dX12_puts_75 rfl fX12_260 (w12_24 _) (hK_317 hS) (by decide) ?_
      refine r_ret dX12_puts_78 rfl ?_
      refine ⟨rfl, ?_, frQ.rf.I (by unfold okQ; omega)⟩
      unfold qPut
      rw [if_pos (show ¬ (0 ≤ X ∧ X < 13 ∧ 0 ≤ Y ∧ Y < 12) by omega)]
      exact hQ.re
    · refine r_iload7 (pc2 := 63) dX12_puts_61 rfl ?_
      refine r_iflt (tgt := 73) (pc2 := 66) dX12_puts_63 rfl (by decide) ⟨by omega, by omega⟩ (fun b_63 => ?_) (fun b_63 => ?_)
      · refine r_aload0 (pc2 := 74) dX12_puts_73 rfl ?_
        refine r_iconst (pc2 := 75) dX12_puts_74 rfl ?_
        refine r_putI (z := 1) (pc2 := 78) dX12_puts_75 rfl fX12_260 (w12_24 _) (hK_317 hS) (by decide) ?_
        refine r_ret dX12_puts_78 rfl ?_
        refine ⟨rfl, ?_, frQ.rf.I (by unfold okQ; omega)⟩
        unfold qPut
        rw [if_pos (show ¬ (0 ≤ X ∧ X < 13 ∧ 0 ≤ Y ∧ Y < 12) by omega)]
        exact hQ.re
      · refine r_iload7 (pc2 := 68) dX12_puts_66 rfl ?_
        refine r_bipush (pc2 := 70) dX12_puts_68 rfl (by decide) (by decide) ?_
        refine r_iclt (tgt := 79) (pc2 := 73) dX12_puts_70 rfl (by decide) ⟨by omega, by omega⟩ ⟨by omega, by omega⟩ (fun b_70 => ?_) (fun b_70 => ?_)
        · refine r_bipush (pc2 := 81) dX12_puts_79 rfl (by decide) (by decide) ?_
          refine r_iload7 (pc2 := 83) dX12_puts_81 rfl ?_
          refine r_imul (c := (13 * Y)) (pc2 := 84) dX12_puts_83 rfl rfl ?_
          refine r_iload6 (pc2 := 86) dX12_puts_84 rfl ?_
          refine r_iadd (c := ((q : Nat) : Int)) (pc2 := 87) dX12_puts_86 rfl (by omega) ?_
          refine r_istore8 (pc2 := 89) dX12_puts_87 rfl rfl ?_
          refine r_aload0 (pc2 := 90) dX12_puts_89 rfl ?_
          refine r_aload0 (pc2 := 91) dX12_puts_90 rfl ?_
          refine r_getR (pc2 := 94) dX12_puts_91 rfl fX12_86 (hK_317 hS) (hR_317_17 hS) ?_
          refine r_iload8 (pc2 := 96) dX12_puts_94 rfl ?_
          refine r_iald (z := (s.1.1.1 q)) (pc2 := 97) dX12_puts_96 rfl (hK_328 hS) q rfl (by omega) (hQ.1.1 q (by omega)).1 ?_
          refine r_ifle (tgt := 104) (pc2 := 100) dX12_puts_97 rfl (by decide) ⟨by omega, by omega⟩ (fun b_97 => ?_) (fun b_97 => ?_)
          · refine r_iload5 (pc2 := 106) dX12_puts_104 rfl ?_
            refine r_cs1 (pc2 := 109) dX12_puts_106 rfl sX12_250 (Nat.le_of_ble_eq_true rfl) (c_X12_isMoving (d := d + 2) (k := k) ⟨by omega, by omega⟩) ?_
            by_cases hmv : k = 4 ∨ k = 7 ∨ k = 9
            · rintro _ M9 ⟨rfl, h9⟩
              rw [h9, if_pos hmv]
              show Go (Ct (d + 3)) _ yX12_puts cX12_puts none 0 0 109 [some (.ref 317), some (.int (iI ((5 * i : Nat) : Int))), some (.int (iI 0)), some (.int (iI dx)), some (.int (iI dy)), some (.int (iI k)), some (.int (iI X)), some (.int (iI Y)), some (.int (iI ((q : Nat) : Int))), none] [.int (iI 1), .ref 317] M
              refine r_ifeq (tgt := 126) (pc2 := 112) dX12_puts_109 rfl (by decide) ⟨by omega, by omega⟩ (fun h9 => absurd h9 (by decide)) (fun _ => ?_)
              refine r_aload0 (pc2 := 113) dX12_puts_112 rfl ?_
              refine r_iconst (pc2 := 114) dX12_puts_113 rfl ?_
              refine r_cv1 (pc2 := 117) dX12_puts_114 rfl vX12_288 (hK_317 hS) (Nat.le_of_ble_eq_true rfl) (c_X12_movingOn (d := d + 1) (pc := s.1.1.1) hS (fun p hp => ⟨(hQ.1.1 p hp).1, bK_pc ho.2.1 p hp⟩)) ?_
              rintro _ M9 ⟨rfl, h9⟩
              rw [h9]
              show Go (Ct (d + 3)) _ yX12_puts cX12_puts none 0 0 117 [some (.ref 317), some (.int (iI ((5 * i : Nat) : Int))), some (.int (iI 0)), some (.int (iI dx)), some (.int (iI dy)), some (.int (iI k)), some (.int (iI X)), some (.int (iI Y)), some (.int (iI ((q : Nat) : Int))), none] [.int (iI ((mvc s.1.1.1 156 : Nat) : Int)), .ref 317] M
              refine r_bipush (pc2 := 119) dX12_puts_117 rfl (by decide) (by decide) ?_
              refine r_icne (tgt := 126) (pc2 := 122) dX12_puts_119 rfl (by decide) ⟨by omega, by omega⟩ ⟨by omega, by omega⟩ (fun b_119 => ?_) (fun b_119 => ?_)
              · refine r_iconst (pc2 := 127) dX12_puts_126 rfl ?_
                refine r_putI (z := 0) (pc2 := 130) dX12_puts_127 rfl fX12_260 (w12_24 _) (hK_317 hS) (by decide) ?_
                refine r_aload0 (pc2 := 131) dX12_puts_130 rfl ?_
                refine r_getI (z := 0) (pc2 := 134) dX12_puts_131 rfl (Or.inl fX12_260) (hK_317 hS) rfl ?_
                refine r_ifle (tgt := 138) (pc2 := 137) dX12_puts_134 rfl (by decide) ⟨by omega, by omega⟩ (fun b_134 => ?_) (fun b_134 => ?_)
                · refine r_iload5 (pc2 := 140) dX12_puts_138 rfl ?_
                  refine r_iconst (pc2 := 141) dX12_puts_140 rfl ?_
                  refine r_iceq (tgt := 151) (pc2 := 144) dX12_puts_141 rfl (by decide) ⟨by omega, by omega⟩ ⟨by omega, by omega⟩ (fun b_141 => ?_) (fun b_141 => ?_)
                  · refine r_iconst (pc2 := 152) dX12_puts_151 rfl ?_
                    refine r_goto (tgt := 156) dX12_puts_152 (by decide) ?_
                    refine r_istore9 (pc2 := 158) dX12_puts_156 rfl rfl ?_
                    refine r_aload0 (pc2 := 159) dX12_puts_158 rfl ?_
                    refine r_getR (pc2 := 162) dX12_puts_159 rfl fX12_86 (hK_317 hS) (hR_317_17 hS) ?_
                    refine r_iload8 (pc2 := 164) dX12_puts_162 rfl ?_
                    refine r_iload2 (pc2 := 165) dX12_puts_164 rfl ?_
                    refine r_ifeq (tgt := 178) (pc2 := 168) dX12_puts_165 rfl (by decide) ⟨by omega, by omega⟩ (fun _ => ?_) (fun h9 => absurd h9 (by decide))
                    refine r_iload2 (pc2 := 179) dX12_puts_178 rfl ?_
                    refine r_ifeq (tgt := 192) (pc2 := 182) dX12_puts_179 rfl (by decide) ⟨by omega, by omega⟩ (fun _ => ?_) (fun h9 => absurd h9 (by decide))
                    refine r_iload5 (pc2 := 194) dX12_puts_192 rfl ?_
                    refine r_iast (z := k) (pc2 := 195) dX12_puts_194 rfl (hK_328 hS) (by decide) q rfl (by omega) ?_
                    refine r_aload0 (pc2 := 196) dX12_puts_195 rfl ?_
                    refine r_getR (pc2 := 199) dX12_puts_196 rfl fX12_89 (hK_317 hS) (hR_317_18 hS) ?_
                    refine r_iload8 (pc2 := 201) dX12_puts_199 rfl ?_
                    refine r_iload9 (pc2 := 203) dX12_puts_201 rfl ?_
                    refine r_ifeq (tgt := 210) (pc2 := 206) dX12_puts_203 rfl (by decide) ⟨by omega, by omega⟩ (fun h9 => absurd h9 (by decide)) (fun _ => ?_)
                    refine r_iconst (pc2 := 207) dX12_puts_206 rfl ?_
                    refine r_goto (tgt := 218) dX12_puts_207 (by decide) ?_
                    refine r_iast (z := 0) (pc2 := 219) dX12_puts_218 rfl (hK_329 hS) (by decide) q rfl (by omega) ?_
                    refine r_aload0 (pc2 := 220) dX12_puts_219 rfl ?_
                    refine r_getR (pc2 := 223) dX12_puts_220 rfl fX12_92 (hK_317 hS) (hR_317_19 hS) ?_
                    refine r_iload8 (pc2 := 225) dX12_puts_223 rfl ?_
                    refine r_iload9 (pc2 := 227) dX12_puts_225 rfl ?_
                    refine r_ifeq (tgt := 258) (pc2 := 230) dX12_puts_227 rfl (by decide) ⟨by omega, by omega⟩ (fun h9 => absurd h9 (by decide)) (fun _ => ?_)
                    refine r_iload2 (pc2 := 231) dX12_puts_230 rfl ?_
                    refine r_ifeq (tgt := 247) (pc2 := 234) dX12_puts_231 rfl (by decide) ⟨by omega, by omega⟩ (fun _ => ?_) (fun h9 => absurd h9 (by decide))
                    refine r_aload0 (pc2 := 248) dX12_puts_247 rfl ?_
                    refine r_getR (pc2 := 251) dX12_puts_248 rfl fX12_74 (hK_317 hS) (hR_317_12 hS) ?_
                    refine r_iload1 (pc2 := 252) dX12_puts_251 rfl ?_
                    refine r_iconst (pc2 := 253) dX12_puts_252 rfl ?_
                    refine r_iadd (c := ((5 * i + 1 : Nat) : Int)) (pc2 := 254) dX12_puts_253 rfl (by omega) ?_
                    refine r_iald (z := z) (pc2 := 255) dX12_puts_254 rfl (hK_324 hS) (5 * i + 1) rfl (by omega) a2 ?_
                    refine r_goto (tgt := 259) dX12_puts_255 (by decide) ?_
                    refine r_iast (z := z) (pc2 := 260) dX12_puts_259 rfl (hK_330 hS) (by decide) q rfl (by omega) ?_
                    refine r_aload0 (pc2 := 261) dX12_puts_260 rfl ?_
                    refine r_dup (pc2 := 262) dX12_puts_261 rfl rfl ?_
                    refine r_getI (z := ((s.2.2.2.1 : Nat) : Int)) (pc2 := 265) dX12_puts_262 rfl (Or.inl fX12_266) (hK_317 hS) hQ.2.2.2 ?_
                    refine r_iconst (pc2 := 266) dX12_puts_265 rfl ?_
                    refine r_iadd (c := ((s.2.2.2.1 + 1 : Nat) : Int)) (pc2 := 267) dX12_puts_266 rfl (by omega) ?_
                    refine r_putI (z := ((s.2.2.2.1 + 1 : Nat) : Int)) (pc2 := 270) dX12_puts_267 rfl fX12_266 (w12_26 _) (hK_317 hS) (by decide) ?_
                    refine r_ret dX12_puts_270 rfl ?_
                    refine ⟨rfl, ?_, ((((frQ.rf.I (by unfold okQ; omega)).I (by unfold okQ; omega)).I (by unfold okQ; omega)).I (by unfold okQ; omega)).I (by unfold okQ; omega)⟩
                    rw [qPut_y (K := k) (Z := 0) (V := z) hq ⟨by omega, by omega, by omega, by omega⟩ (by omega) (fun c => by omega) (by unfold kMir; (repeat' split) <;> omega) (by split <;> omega) (by (repeat' split) <;> omega)]
                    exact hQ.set (by omega)
                  · refine r_iload5 (pc2 := 146) dX12_puts_144 rfl ?_
                    refine r_bipush (pc2 := 148) dX12_puts_146 rfl (by decide) (by decide) ?_
                    refine r_icne (tgt := 155) (pc2 := 151) dX12_puts_148 rfl (by decide) ⟨by omega, by omega⟩ ⟨by omega, by omega⟩ (fun b_148 => ?_) (fun b_148 => ?_)
                    · refine r_iconst (pc2 := 156) dX12_puts_155 rfl ?_
                      refine r_istore9 (pc2 := 158) dX12_puts_156 rfl rfl ?_
                      refine r_aload0 (pc2 := 159) dX12_puts_158 rfl ?_
                      refine r_getR (pc2 := 162) dX12_puts_159 rfl fX12_86 (hK_317 hS) (hR_317_17 hS) ?_
                      refine r_iload8 (pc2 := 164) dX12_puts_162 rfl ?_
                      refine r_iload2 (pc2 := 165) dX12_puts_164 rfl ?_
                      refine r_ifeq (tgt := 178) (pc2 := 168) dX12_puts_165 rfl (by decide) ⟨by omega, by omega⟩ (fun _ => ?_) (fun h9 => absurd h9 (by decide))
                      refine r_iload2 (pc2 := 179) dX12_puts_178 rfl ?_
                      refine r_ifeq (tgt := 192) (pc2 := 182) dX12_puts_179 rfl (by decide) ⟨by omega, by omega⟩ (fun _ => ?_) (fun h9 => absurd h9 (by decide))
                      refine r_iload5 (pc2 := 194) dX12_puts_192 rfl ?_
                      refine r_iast (z := k) (pc2 := 195) dX12_puts_194 rfl (hK_328 hS) (by decide) q rfl (by omega) ?_
                      refine r_aload0 (pc2 := 196) dX12_puts_195 rfl ?_
                      refine r_getR (pc2 := 199) dX12_puts_196 rfl fX12_89 (hK_317 hS) (hR_317_18 hS) ?_
                      refine r_iload8 (pc2 := 201) dX12_puts_199 rfl ?_
                      refine r_iload9 (pc2 := 203) dX12_puts_201 rfl ?_
                      refine r_ifeq (tgt := 210) (pc2 := 206) dX12_puts_203 rfl (by decide) ⟨by omega, by omega⟩ (fun _ => ?_) (fun h9 => absurd h9 (by decide))
                      refine r_aload0 (pc2 := 211) dX12_puts_210 rfl ?_
                      refine r_getR (pc2 := 214) dX12_puts_211 rfl fX12_74 (hK_317 hS) (hR_317_12 hS) ?_
                      refine r_iload1 (pc2 := 215) dX12_puts_214 rfl ?_
                      refine r_iconst (pc2 := 216) dX12_puts_215 rfl ?_
                      refine r_iadd (c := ((5 * i + 1 : Nat) : Int)) (pc2 := 217) dX12_puts_216 rfl (by omega) ?_
                      refine r_iald (z := z) (pc2 := 218) dX12_puts_217 rfl (hK_324 hS) (5 * i + 1) rfl (by omega) a2 ?_
                      refine r_iast (z := z) (pc2 := 219) dX12_puts_218 rfl (hK_329 hS) (by decide) q rfl (by omega) ?_
                      refine r_aload0 (pc2 := 220) dX12_puts_219 rfl ?_
                      refine r_getR (pc2 := 223) dX12_puts_220 rfl fX12_92 (hK_317 hS) (hR_317_19 hS) ?_
                      refine r_iload8 (pc2 := 225) dX12_puts_223 rfl ?_
                      refine r_iload9 (pc2 := 227) dX12_puts_225 rfl ?_
                      refine r_ifeq (tgt := 258) (pc2 := 230) dX12_puts_227 rfl (by decide) ⟨by omega, by omega⟩ (fun _ => ?_) (fun h9 => absurd h9 (by decide))
                      refine r_iconst (pc2 := 259) dX12_puts_258 rfl ?_
                      refine r_iast (z := 0) (pc2 := 260) dX12_puts_259 rfl (hK_330 hS) (by decide) q rfl (by omega) ?_
                      refine r_aload0 (pc2 := 261) dX12_puts_260 rfl ?_
                      refine r_dup (pc2 := 262) dX12_puts_261 rfl rfl ?_
                      refine r_getI (z := ((s.2.2.2.1 : Nat) : Int)) (pc2 := 265) dX12_puts_262 rfl (Or.inl fX12_266) (hK_317 hS) hQ.2.2.2 ?_
                      refine r_iconst (pc2 := 266) dX12_puts_265 rfl ?_
                      refine r_iadd (c := ((s.2.2.2.1 + 1 : Nat) : Int)) (pc2 := 267) dX12_puts_266 rfl (by omega) ?_
                      refine r_putI (z := ((s.2.2.2.1 + 1 : Nat) : Int)) (pc2 := 270) dX12_puts_267 rfl fX12_266 (w12_26 _) (hK_317 hS) (by decide) ?_
                      refine r_ret dX12_puts_270 rfl ?_
                      refine ⟨rfl, ?_, ((((frQ.rf.I (by unfold okQ; omega)).I (by unfold okQ; omega)).I (by unfold okQ; omega)).I (by unfold okQ; omega)).I (by unfold okQ; omega)⟩
                      rw [qPut_y (K := k) (Z := z) (V := 0) hq ⟨by omega, by omega, by omega, by omega⟩ (by omega) (fun c => by omega) (by unfold kMir; (repeat' split) <;> omega) (by split <;> omega) (by (repeat' split) <;> omega)]
                      exact hQ.set (by omega)
                    · refine r_iconst (pc2 := 152) dX12_puts_151 rfl ?_
                      refine r_goto (tgt := 156) dX12_puts_152 (by decide) ?_
                      refine r_istore9 (pc2 := 158) dX12_puts_156 rfl rfl ?_
                      refine r_aload0 (pc2 := 159) dX12_puts_158 rfl ?_
                      refine r_getR (pc2 := 162) dX12_puts_159 rfl fX12_86 (hK_317 hS) (hR_317_17 hS) ?_
                      refine r_iload8 (pc2 := 164) dX12_puts_162 rfl ?_
                      refine r_iload2 (pc2 := 165) dX12_puts_164 rfl ?_
                      refine r_ifeq (tgt := 178) (pc2 := 168) dX12_puts_165 rfl (by decide) ⟨by omega, by omega⟩ (fun _ => ?_) (fun h9 => absurd h9 (by decide))
                      refine r_iload2 (pc2 := 179) dX12_puts_178 rfl ?_
                      refine r_ifeq (tgt := 192) (pc2 := 182) dX12_puts_179 rfl (by decide) ⟨by omega, by omega⟩ (fun _ => ?_) (fun h9 => absurd h9 (by decide))
                      refine r_iload5 (pc2 := 194) dX12_puts_192 rfl ?_
                      refine r_iast (z := k) (pc2 := 195) dX12_puts_194 rfl (hK_328 hS) (by decide) q rfl (by omega) ?_
                      refine r_aload0 (pc2 := 196) dX12_puts_195 rfl ?_
                      refine r_getR (pc2 := 199) dX12_puts_196 rfl fX12_89 (hK_317 hS) (hR_317_18 hS) ?_
                      refine r_iload8 (pc2 := 201) dX12_puts_199 rfl ?_
                      refine r_iload9 (pc2 := 203) dX12_puts_201 rfl ?_
                      refine r_ifeq (tgt := 210) (pc2 := 206) dX12_puts_203 rfl (by decide) ⟨by omega, by omega⟩ (fun h9 => absurd h9 (by decide)) (fun _ => ?_)
                      refine r_iconst (pc2 := 207) dX12_puts_206 rfl ?_
                      refine r_goto (tgt := 218) dX12_puts_207 (by decide) ?_
                      refine r_iast (z := 0) (pc2 := 219) dX12_puts_218 rfl (hK_329 hS) (by decide) q rfl (by omega) ?_
                      refine r_aload0 (pc2 := 220) dX12_puts_219 rfl ?_
                      refine r_getR (pc2 := 223) dX12_puts_220 rfl fX12_92 (hK_317 hS) (hR_317_19 hS) ?_
                      refine r_iload8 (pc2 := 225) dX12_puts_223 rfl ?_
                      refine r_iload9 (pc2 := 227) dX12_puts_225 rfl ?_
                      refine r_ifeq (tgt := 258) (pc2 := 230) dX12_puts_227 rfl (by decide) ⟨by omega, by omega⟩ (fun h9 => absurd h9 (by decide)) (fun _ => ?_)
                      refine r_iload2 (pc2 := 231) dX12_puts_230 rfl ?_
                      refine r_ifeq (tgt := 247) (pc2 := 234) dX12_puts_231 rfl (by decide) ⟨by omega, by omega⟩ (fun _ => ?_) (fun h9 => absurd h9 (by decide))
                      refine r_aload0 (pc2 := 248) dX12_puts_247 rfl ?_
                      refine r_getR (pc2 := 251) dX12_puts_248 rfl fX12_74 (hK_317 hS) (hR_317_12 hS) ?_
                      refine r_iload1 (pc2 := 252) dX12_puts_251 rfl ?_
                      refine r_iconst (pc2 := 253) dX12_puts_252 rfl ?_
                      refine r_iadd (c := ((5 * i + 1 : Nat) : Int)) (pc2 := 254) dX12_puts_253 rfl (by omega) ?_
                      refine r_iald (z := z) (pc2 := 255) dX12_puts_254 rfl (hK_324 hS) (5 * i + 1) rfl (by omega) a2 ?_
                      refine r_goto (tgt := 259) dX12_puts_255 (by decide) ?_
                      refine r_iast (z := z) (pc2 := 260) dX12_puts_259 rfl (hK_330 hS) (by decide) q rfl (by omega) ?_
                      refine r_aload0 (pc2 := 261) dX12_puts_260 rfl ?_
                      refine r_dup (pc2 := 262) dX12_puts_261 rfl rfl ?_
                      refine r_getI (z := ((s.2.2.2.1 : Nat) : Int)) (pc2 := 265) dX12_puts_262 rfl (Or.inl fX12_266) (hK_317 hS) hQ.2.2.2 ?_
                      refine r_iconst (pc2 := 266) dX12_puts_265 rfl ?_
                      refine r_iadd (c := ((s.2.2.2.1 + 1 : Nat) : Int)) (pc2 := 267) dX12_puts_266 rfl (by omega) ?_
                      refine r_putI (z := ((s.2.2.2.1 + 1 : Nat) : Int)) (pc2 := 270) dX12_puts_267 rfl fX12_266 (w12_26 _) (hK_317 hS) (by decide) ?_
                      refine r_ret dX12_puts_270 rfl ?_
                      refine ⟨rfl, ?_, ((((frQ.rf.I (by unfold okQ; omega)).I (by unfold okQ; omega)).I (by unfold okQ; omega)).I (by unfold okQ; omega)).I (by unfold okQ; omega)⟩
                      rw [qPut_y (K := k) (Z := 0) (V := z) hq ⟨by omega, by omega, by omega, by omega⟩ (by omega) (fun c => by omega) (by unfold kMir; (repeat' split) <;> omega) (by split <;> omega) (by (repeat' split) <;> omega)]
                      exact hQ.set (by omega)
                · refine r_ret dX12_puts_137 rfl ?_
                  exact absurd b_134 (by decide)
              · refine r_iconst (pc2 := 123) dX12_puts_122 rfl ?_
                refine r_goto (tgt := 127) dX12_puts_123 (by decide) ?_
                refine r_putI (z := 3) (pc2 := 130) dX12_puts_127 rfl fX12_260 (w12_24 _) (hK_317 hS) (by decide) ?_
                refine r_aload0 (pc2 := 131) dX12_puts_130 rfl ?_
                refine r_getI (z := 3) (pc2 := 134) dX12_puts_131 rfl (Or.inl fX12_260) (hK_317 hS) rfl ?_
                refine r_ifle (tgt := 138) (pc2 := 137) dX12_puts_134 rfl (by decide) ⟨by omega, by omega⟩ (fun b_134 => ?_) (fun b_134 => ?_)
                · refine r_iload5 (pc2 := 140) dX12_puts_138 rfl ?_
                  refine r_iconst (pc2 := 141) dX12_puts_140 rfl ?_
                  refine r_iceq (tgt := 151) (pc2 := 144) dX12_puts_141 rfl (by decide) ⟨by omega, by omega⟩ ⟨by omega, by omega⟩ (fun b_141 => ?_) (fun b_141 => ?_)
                  · refine r_iconst (pc2 := 152) dX12_puts_151 rfl ?_
                    refine r_goto (tgt := 156) dX12_puts_152 (by decide) ?_
                    refine r_istore9 (pc2 := 158) dX12_puts_156 rfl rfl ?_
                    refine r_aload0 (pc2 := 159) dX12_puts_158 rfl ?_
                    refine r_getR (pc2 := 162) dX12_puts_159 rfl fX12_86 (hK_317 hS) (hR_317_17 hS) ?_
                    refine r_iload8 (pc2 := 164) dX12_puts_162 rfl ?_
                    refine r_iload2 (pc2 := 165) dX12_puts_164 rfl ?_
                    refine r_ifeq (tgt := 178) (pc2 := 168) dX12_puts_165 rfl (by decide) ⟨by omega, by omega⟩ (fun _ => ?_) (fun h9 => absurd h9 (by decide))
                    refine r_iload2 (pc2 := 179) dX12_puts_178 rfl ?_
                    refine r_ifeq (tgt := 192) (pc2 := 182) dX12_puts_179 rfl (by decide) ⟨by omega, by omega⟩ (fun _ => ?_) (fun h9 => absurd h9 (by decide))
                    refine r_iload5 (pc2 := 194) dX12_puts_192 rfl ?_
                    refine r_iast (z := k) (pc2 := 195) dX12_puts_194 rfl (hK_328 hS) (by decide) q rfl (by omega) ?_
                    refine r_aload0 (pc2 := 196) dX12_puts_195 rfl ?_
                    refine r_getR (pc2 := 199) dX12_puts_196 rfl fX12_89 (hK_317 hS) (hR_317_18 hS) ?_
                    refine r_iload8 (pc2 := 201) dX12_puts_199 rfl ?_
                    refine r_iload9 (pc2 := 203) dX12_puts_201 rfl ?_
                    refine r_ifeq (tgt := 210) (pc2 := 206) dX12_puts_203 rfl (by decide) ⟨by omega, by omega⟩ (fun h9 => absurd h9 (by decide)) (fun _ => ?_)
                    refine r_iconst (pc2 := 207) dX12_puts_206 rfl ?_
                    refine r_goto (tgt := 218) dX12_puts_207 (by decide) ?_
                    refine r_iast (z := 0) (pc2 := 219) dX12_puts_218 rfl (hK_329 hS) (by decide) q rfl (by omega) ?_
                    refine r_aload0 (pc2 := 220) dX12_puts_219 rfl ?_
                    refine r_getR (pc2 := 223) dX12_puts_220 rfl fX12_92 (hK_317 hS) (hR_317_19 hS) ?_
                    refine r_iload8 (pc2 := 225) dX12_puts_223 rfl ?_
                    refine r_iload9 (pc2 := 227) dX12_puts_225 rfl ?_
                    refine r_ifeq (tgt := 258) (pc2 := 230) dX12_puts_227 rfl (by decide) ⟨by omega, by omega⟩ (fun h9 => absurd h9 (by decide)) (fun _ => ?_)
                    refine r_iload2 (pc2 := 231) dX12_puts_230 rfl ?_
                    refine r_ifeq (tgt := 247) (pc2 := 234) dX12_puts_231 rfl (by decide) ⟨by omega, by omega⟩ (fun _ => ?_) (fun h9 => absurd h9 (by decide))
                    refine r_aload0 (pc2 := 248) dX12_puts_247 rfl ?_
                    refine r_getR (pc2 := 251) dX12_puts_248 rfl fX12_74 (hK_317 hS) (hR_317_12 hS) ?_
                    refine r_iload1 (pc2 := 252) dX12_puts_251 rfl ?_
                    refine r_iconst (pc2 := 253) dX12_puts_252 rfl ?_
                    refine r_iadd (c := ((5 * i + 1 : Nat) : Int)) (pc2 := 254) dX12_puts_253 rfl (by omega) ?_
                    refine r_iald (z := z) (pc2 := 255) dX12_puts_254 rfl (hK_324 hS) (5 * i + 1) rfl (by omega) a2 ?_
                    refine r_goto (tgt := 259) dX12_puts_255 (by decide) ?_
                    refine r_iast (z := z) (pc2 := 260) dX12_puts_259 rfl (hK_330 hS) (by decide) q rfl (by omega) ?_
                    refine r_aload0 (pc2 := 261) dX12_puts_260 rfl ?_
                    refine r_dup (pc2 := 262) dX12_puts_261 rfl rfl ?_
                    refine r_getI (z := ((s.2.2.2.1 : Nat) : Int)) (pc2 := 265) dX12_puts_262 rfl (Or.inl fX12_266) (hK_317 hS) hQ.2.2.2 ?_
                    refine r_iconst (pc2 := 266) dX12_puts_265 rfl ?_
                    refine r_iadd (c := ((s.2.2.2.1 + 1 : Nat) : Int)) (pc2 := 267) dX12_puts_266 rfl (by omega) ?_
                    refine r_putI (z := ((s.2.2.2.1 + 1 : Nat) : Int)) (pc2 := 270) dX12_puts_267 rfl fX12_266 (w12_26 _) (hK_317 hS) (by decide) ?_
                    refine r_ret dX12_puts_270 rfl ?_
                    exact absurd b_134 (by decide)
                  · refine r_iload5 (pc2 := 146) dX12_puts_144 rfl ?_
                    refine r_bipush (pc2 := 148) dX12_puts_146 rfl (by decide) (by decide) ?_
                    refine r_icne (tgt := 155) (pc2 := 151) dX12_puts_148 rfl (by decide) ⟨by omega, by omega⟩ ⟨by omega, by omega⟩ (fun b_148 => ?_) (fun b_148 => ?_)
                    · refine r_iconst (pc2 := 156) dX12_puts_155 rfl ?_
                      refine r_istore9 (pc2 := 158) dX12_puts_156 rfl rfl ?_
                      refine r_aload0 (pc2 := 159) dX12_puts_158 rfl ?_
                      refine r_getR (pc2 := 162) dX12_puts_159 rfl fX12_86 (hK_317 hS) (hR_317_17 hS) ?_
                      refine r_iload8 (pc2 := 164) dX12_puts_162 rfl ?_
                      refine r_iload2 (pc2 := 165) dX12_puts_164 rfl ?_
                      refine r_ifeq (tgt := 178) (pc2 := 168) dX12_puts_165 rfl (by decide) ⟨by omega, by omega⟩ (fun _ => ?_) (fun h9 => absurd h9 (by decide))
                      refine r_iload2 (pc2 := 179) dX12_puts_178 rfl ?_
                      refine r_ifeq (tgt := 192) (pc2 := 182) dX12_puts_179 rfl (by decide) ⟨by omega, by omega⟩ (fun _ => ?_) (fun h9 => absurd h9 (by decide))
                      refine r_iload5 (pc2 := 194) dX12_puts_192 rfl ?_
                      refine r_iast (z := k) (pc2 := 195) dX12_puts_194 rfl (hK_328 hS) (by decide) q rfl (by omega) ?_
                      refine r_aload0 (pc2 := 196) dX12_puts_195 rfl ?_
                      refine r_getR (pc2 := 199) dX12_puts_196 rfl fX12_89 (hK_317 hS) (hR_317_18 hS) ?_
                      refine r_iload8 (pc2 := 201) dX12_puts_199 rfl ?_
                      refine r_iload9 (pc2 := 203) dX12_puts_201 rfl ?_
                      refine r_ifeq (tgt := 210) (pc2 := 206) dX12_puts_203 rfl (by decide) ⟨by omega, by omega⟩ (fun _ => ?_) (fun h9 => absurd h9 (by decide))
                      refine r_aload0 (pc2 := 211) dX12_puts_210 rfl ?_
                      refine r_getR (pc2 := 214) dX12_puts_211 rfl fX12_74 (hK_317 hS) (hR_317_12 hS) ?_
                      refine r_iload1 (pc2 := 215) dX12_puts_214 rfl ?_
                      refine r_iconst (pc2 := 216) dX12_puts_215 rfl ?_
                      refine r_iadd (c := ((5 * i + 1 : Nat) : Int)) (pc2 := 217) dX12_puts_216 rfl (by omega) ?_
                      refine r_iald (z := z) (pc2 := 218) dX12_puts_217 rfl (hK_324 hS) (5 * i + 1) rfl (by omega) a2 ?_
                      refine r_iast (z := z) (pc2 := 219) dX12_puts_218 rfl (hK_329 hS) (by decide) q rfl (by omega) ?_
                      refine r_aload0 (pc2 := 220) dX12_puts_219 rfl ?_
                      refine r_getR (pc2 := 223) dX12_puts_220 rfl fX12_92 (hK_317 hS) (hR_317_19 hS) ?_
                      refine r_iload8 (pc2 := 225) dX12_puts_223 rfl ?_
                      refine r_iload9 (pc2 := 227) dX12_puts_225 rfl ?_
                      refine r_ifeq (tgt := 258) (pc2 := 230) dX12_puts_227 rfl (by decide) ⟨by omega, by omega⟩ (fun _ => ?_) (fun h9 => absurd h9 (by decide))
                      refine r_iconst (pc2 := 259) dX12_puts_258 rfl ?_
                      refine r_iast (z := 0) (pc2 := 260) dX12_puts_259 rfl (hK_330 hS) (by decide) q rfl (by omega) ?_
                      refine r_aload0 (pc2 := 261) dX12_puts_260 rfl ?_
                      refine r_dup (pc2 := 262) dX12_puts_261 rfl rfl ?_
                      refine r_getI (z := ((s.2.2.2.1 : Nat) : Int)) (pc2 := 265) dX12_puts_262 rfl (Or.inl fX12_266) (hK_317 hS) hQ.2.2.2 ?_
                      refine r_iconst (pc2 := 266) dX12_puts_265 rfl ?_
                      refine r_iadd (c := ((s.2.2.2.1 + 1 : Nat) : Int)) (pc2 := 267) dX12_puts_266 rfl (by omega) ?_
                      refine r_putI (z := ((s.2.2.2.1 + 1 : Nat) : Int)) (pc2 := 270) dX12_puts_267 rfl fX12_266 (w12_26 _) (hK_317 hS) (by decide) ?_
                      refine r_ret dX12_puts_270 rfl ?_
                      exact absurd b_134 (by decide)
                    · refine r_iconst (pc2 := 152) dX12_puts_151 rfl ?_
                      refine r_goto (tgt := 156) dX12_puts_152 (by decide) ?_
                      refine r_istore9 (pc2 := 158) dX12_puts_156 rfl rfl ?_
                      refine r_aload0 (pc2 := 159) dX12_puts_158 rfl ?_
                      refine r_getR (pc2 := 162) dX12_puts_159 rfl fX12_86 (hK_317 hS) (hR_317_17 hS) ?_
                      refine r_iload8 (pc2 := 164) dX12_puts_162 rfl ?_
                      refine r_iload2 (pc2 := 165) dX12_puts_164 rfl ?_
                      refine r_ifeq (tgt := 178) (pc2 := 168) dX12_puts_165 rfl (by decide) ⟨by omega, by omega⟩ (fun _ => ?_) (fun h9 => absurd h9 (by decide))
                      refine r_iload2 (pc2 := 179) dX12_puts_178 rfl ?_
                      refine r_ifeq (tgt := 192) (pc2 := 182) dX12_puts_179 rfl (by decide) ⟨by omega, by omega⟩ (fun _ => ?_) (fun h9 => absurd h9 (by decide))
                      refine r_iload5 (pc2 := 194) dX12_puts_192 rfl ?_
                      refine r_iast (z := k) (pc2 := 195) dX12_puts_194 rfl (hK_328 hS) (by decide) q rfl (by omega) ?_
                      refine r_aload0 (pc2 := 196) dX12_puts_195 rfl ?_
                      refine r_getR (pc2 := 199) dX12_puts_196 rfl fX12_89 (hK_317 hS) (hR_317_18 hS) ?_
                      refine r_iload8 (pc2 := 201) dX12_puts_199 rfl ?_
                      refine r_iload9 (pc2 := 203) dX12_puts_201 rfl ?_
                      refine r_ifeq (tgt := 210) (pc2 := 206) dX12_puts_203 rfl (by decide) ⟨by omega, by omega⟩ (fun h9 => absurd h9 (by decide)) (fun _ => ?_)
                      refine r_iconst (pc2 := 207) dX12_puts_206 rfl ?_
                      refine r_goto (tgt := 218) dX12_puts_207 (by decide) ?_
                      refine r_iast (z := 0) (pc2 := 219) dX12_puts_218 rfl (hK_329 hS) (by decide) q rfl (by omega) ?_
                      refine r_aload0 (pc2 := 220) dX12_puts_219 rfl ?_
                      refine r_getR (pc2 := 223) dX12_puts_220 rfl fX12_92 (hK_317 hS) (hR_317_19 hS) ?_
                      refine r_iload8 (pc2 := 225) dX12_puts_223 rfl ?_
                      refine r_iload9 (pc2 := 227) dX12_puts_225 rfl ?_
                      refine r_ifeq (tgt := 258) (pc2 := 230) dX12_puts_227 rfl (by decide) ⟨by omega, by omega⟩ (fun h9 => absurd h9 (by decide)) (fun _ => ?_)
                      refine r_iload2 (pc2 := 231) dX12_puts_230 rfl ?_
                      refine r_ifeq (tgt := 247) (pc2 := 234) dX12_puts_231 rfl (by decide) ⟨by omega, by omega⟩ (fun _ => ?_) (fun h9 => absurd h9 (by decide))
                      refine r_aload0 (pc2 := 248) dX12_puts_247 rfl ?_
                      refine r_getR (pc2 := 251) dX12_puts_248 rfl fX12_74 (hK_317 hS) (hR_317_12 hS) ?_
                      refine r_iload1 (pc2 := 252) dX12_puts_251 rfl ?_
                      refine r_iconst (pc2 := 253) dX12_puts_252 rfl ?_
                      refine r_iadd (c := ((5 * i + 1 : Nat) : Int)) (pc2 := 254) dX12_puts_253 rfl (by omega) ?_
                      refine r_iald (z := z) (pc2 := 255) dX12_puts_254 rfl (hK_324 hS) (5 * i + 1) rfl (by omega) a2 ?_
                      refine r_goto (tgt := 259) dX12_puts_255 (by decide) ?_
                      refine r_iast (z := z) (pc2 := 260) dX12_puts_259 rfl (hK_330 hS) (by decide) q rfl (by omega) ?_
                      refine r_aload0 (pc2 := 261) dX12_puts_260 rfl ?_
                      refine r_dup (pc2 := 262) dX12_puts_261 rfl rfl ?_
                      refine r_getI (z := ((s.2.2.2.1 : Nat) : Int)) (pc2 := 265) dX12_puts_262 rfl (Or.inl fX12_266) (hK_317 hS) hQ.2.2.2 ?_
                      refine r_iconst (pc2 := 266) dX12_puts_265 rfl ?_
                      refine r_iadd (c := ((s.2.2.2.1 + 1 : Nat) : Int)) (pc2 := 267) dX12_puts_266 rfl (by omega) ?_
                      refine r_putI (z := ((s.2.2.2.1 + 1 : Nat) : Int)) (pc2 := 270) dX12_puts_267 rfl fX12_266 (w12_26 _) (hK_317 hS) (by decide) ?_
                      refine r_ret dX12_puts_270 rfl ?_
                      exact absurd b_134 (by decide)
                · refine r_ret dX12_puts_137 rfl ?_
                  refine ⟨rfl, ?_, frQ.rf.I (by unfold okQ; omega)⟩
                  unfold qPut
                  rw [← hq, if_neg (show ¬ ¬ (0 ≤ X ∧ X < 13 ∧ 0 ≤ Y ∧ Y < 12) by omega), if_neg (show ¬ ¬ s.1.1.1 q = 0 by omega), if_pos (show (k = 4 ∨ k = 7 ∨ k = 9) ∧ mvc s.1.1.1 156 = 16 from ⟨hmv, by omega⟩)]
                  exact hQ.re
            · rintro _ M9 ⟨rfl, h9⟩
              rw [h9, if_neg hmv]
              show Go (Ct (d + 3)) _ yX12_puts cX12_puts none 0 0 109 [some (.ref 317), some (.int (iI ((5 * i : Nat) : Int))), some (.int (iI 0)), some (.int (iI dx)), some (.int (iI dy)), some (.int (iI k)), some (.int (iI X)), some (.int (iI Y)), some (.int (iI ((q : Nat) : Int))), none] [.int (iI 0), .ref 317] M
              refine r_ifeq (tgt := 126) (pc2 := 112) dX12_puts_109 rfl (by decide) ⟨by omega, by omega⟩ (fun _ => ?_) (fun h9 => absurd h9 (by decide))
              refine r_iconst (pc2 := 127) dX12_puts_126 rfl ?_
              refine r_putI (z := 0) (pc2 := 130) dX12_puts_127 rfl fX12_260 (w12_24 _) (hK_317 hS) (by decide) ?_
              refine r_aload0 (pc2 := 131) dX12_puts_130 rfl ?_
              refine r_getI (z := 0) (pc2 := 134) dX12_puts_131 rfl (Or.inl fX12_260) (hK_317 hS) rfl ?_
              refine r_ifle (tgt := 138) (pc2 := 137) dX12_puts_134 rfl (by decide) ⟨by omega, by omega⟩ (fun b_134 => ?_) (fun b_134 => ?_)
              · refine r_iload5 (pc2 := 140) dX12_puts_138 rfl ?_
                refine r_iconst (pc2 := 141) dX12_puts_140 rfl ?_
                refine r_iceq (tgt := 151) (pc2 := 144) dX12_puts_141 rfl (by decide) ⟨by omega, by omega⟩ ⟨by omega, by omega⟩ (fun b_141 => ?_) (fun b_141 => ?_)
                · refine r_iconst (pc2 := 152) dX12_puts_151 rfl ?_
                  refine r_goto (tgt := 156) dX12_puts_152 (by decide) ?_
                  refine r_istore9 (pc2 := 158) dX12_puts_156 rfl rfl ?_
                  refine r_aload0 (pc2 := 159) dX12_puts_158 rfl ?_
                  refine r_getR (pc2 := 162) dX12_puts_159 rfl fX12_86 (hK_317 hS) (hR_317_17 hS) ?_
                  refine r_iload8 (pc2 := 164) dX12_puts_162 rfl ?_
                  refine r_iload2 (pc2 := 165) dX12_puts_164 rfl ?_
                  refine r_ifeq (tgt := 178) (pc2 := 168) dX12_puts_165 rfl (by decide) ⟨by omega, by omega⟩ (fun _ => ?_) (fun h9 => absurd h9 (by decide))
                  refine r_iload2 (pc2 := 179) dX12_puts_178 rfl ?_
                  refine r_ifeq (tgt := 192) (pc2 := 182) dX12_puts_179 rfl (by decide) ⟨by omega, by omega⟩ (fun _ => ?_) (fun h9 => absurd h9 (by decide))
                  refine r_iload5 (pc2 := 194) dX12_puts_192 rfl ?_
                  refine r_iast (z := k) (pc2 := 195) dX12_puts_194 rfl (hK_328 hS) (by decide) q rfl (by omega) ?_
                  refine r_aload0 (pc2 := 196) dX12_puts_195 rfl ?_
                  refine r_getR (pc2 := 199) dX12_puts_196 rfl fX12_89 (hK_317 hS) (hR_317_18 hS) ?_
                  refine r_iload8 (pc2 := 201) dX12_puts_199 rfl ?_
                  refine r_iload9 (pc2 := 203) dX12_puts_201 rfl ?_
                  refine r_ifeq (tgt := 210) (pc2 := 206) dX12_puts_203 rfl (by decide) ⟨by omega, by omega⟩ (fun h9 => absurd h9 (by decide)) (fun _ => ?_)
                  refine r_iconst (pc2 := 207) dX12_puts_206 rfl ?_
                  refine r_goto (tgt := 218) dX12_puts_207 (by decide) ?_
                  refine r_iast (z := 0) (pc2 := 219) dX12_puts_218 rfl (hK_329 hS) (by decide) q rfl (by omega) ?_
                  refine r_aload0 (pc2 := 220) dX12_puts_219 rfl ?_
                  refine r_getR (pc2 := 223) dX12_puts_220 rfl fX12_92 (hK_317 hS) (hR_317_19 hS) ?_
                  refine r_iload8 (pc2 := 225) dX12_puts_223 rfl ?_
                  refine r_iload9 (pc2 := 227) dX12_puts_225 rfl ?_
                  refine r_ifeq (tgt := 258) (pc2 := 230) dX12_puts_227 rfl (by decide) ⟨by omega, by omega⟩ (fun h9 => absurd h9 (by decide)) (fun _ => ?_)
                  refine r_iload2 (pc2 := 231) dX12_puts_230 rfl ?_
                  refine r_ifeq (tgt := 247) (pc2 := 234) dX12_puts_231 rfl (by decide) ⟨by omega, by omega⟩ (fun _ => ?_) (fun h9 => absurd h9 (by decide))
                  refine r_aload0 (pc2 := 248) dX12_puts_247 rfl ?_
                  refine r_getR (pc2 := 251) dX12_puts_248 rfl fX12_74 (hK_317 hS) (hR_317_12 hS) ?_
                  refine r_iload1 (pc2 := 252) dX12_puts_251 rfl ?_
                  refine r_iconst (pc2 := 253) dX12_puts_252 rfl ?_
                  refine r_iadd (c := ((5 * i + 1 : Nat) : Int)) (pc2 := 254) dX12_puts_253 rfl (by omega) ?_
                  refine r_iald (z := z) (pc2 := 255) dX12_puts_254 rfl (hK_324 hS) (5 * i + 1) rfl (by omega) a2 ?_
                  refine r_goto (tgt := 259) dX12_puts_255 (by decide) ?_
                  refine r_iast (z := z) (pc2 := 260) dX12_puts_259 rfl (hK_330 hS) (by decide) q rfl (by omega) ?_
                  refine r_aload0 (pc2 := 261) dX12_puts_260 rfl ?_
                  refine r_dup (pc2 := 262) dX12_puts_261 rfl rfl ?_
                  refine r_getI (z := ((s.2.2.2.1 : Nat) : Int)) (pc2 := 265) dX12_puts_262 rfl (Or.inl fX12_266) (hK_317 hS) hQ.2.2.2 ?_
                  refine r_iconst (pc2 := 266) dX12_puts_265 rfl ?_
                  refine r_iadd (c := ((s.2.2.2.1 + 1 : Nat) : Int)) (pc2 := 267) dX12_puts_266 rfl (by omega) ?_
                  refine r_putI (z := ((s.2.2.2.1 + 1 : Nat) : Int)) (pc2 := 270) dX12_puts_267 rfl fX12_266 (w12_26 _) (hK_317 hS) (by decide) ?_
                  refine r_ret dX12_puts_270 rfl ?_
                  refine ⟨rfl, ?_, ((((frQ.rf.I (by unfold okQ; omega)).I (by unfold okQ; omega)).I (by unfold okQ; omega)).I (by unfold okQ; omega)).I (by unfold okQ; omega)⟩
                  rw [qPut_y (K := k) (Z := 0) (V := z) hq ⟨by omega, by omega, by omega, by omega⟩ (by omega) (fun c => hmv c.1) (by unfold kMir; (repeat' split) <;> omega) (by split <;> omega) (by (repeat' split) <;> omega)]
                  exact hQ.set (by omega)
                · refine r_iload5 (pc2 := 146) dX12_puts_144 rfl ?_
                  refine r_bipush (pc2 := 148) dX12_puts_146 rfl (by decide) (by decide) ?_
                  refine r_icne (tgt := 155) (pc2 := 151) dX12_puts_148 rfl (by decide) ⟨by omega, by omega⟩ ⟨by omega, by omega⟩ (fun b_148 => ?_) (fun b_148 => ?_)
                  · refine r_iconst (pc2 := 156) dX12_puts_155 rfl ?_
                    refine r_istore9 (pc2 := 158) dX12_puts_156 rfl rfl ?_
                    refine r_aload0 (pc2 := 159) dX12_puts_158 rfl ?_
                    refine r_getR (pc2 := 162) dX12_puts_159 rfl fX12_86 (hK_317 hS) (hR_317_17 hS) ?_
                    refine r_iload8 (pc2 := 164) dX12_puts_162 rfl ?_
                    refine r_iload2 (pc2 := 165) dX12_puts_164 rfl ?_
                    refine r_ifeq (tgt := 178) (pc2 := 168) dX12_puts_165 rfl (by decide) ⟨by omega, by omega⟩ (fun _ => ?_) (fun h9 => absurd h9 (by decide))
                    refine r_iload2 (pc2 := 179) dX12_puts_178 rfl ?_
                    refine r_ifeq (tgt := 192) (pc2 := 182) dX12_puts_179 rfl (by decide) ⟨by omega, by omega⟩ (fun _ => ?_) (fun h9 => absurd h9 (by decide))
                    refine r_iload5 (pc2 := 194) dX12_puts_192 rfl ?_
                    refine r_iast (z := k) (pc2 := 195) dX12_puts_194 rfl (hK_328 hS) (by decide) q rfl (by omega) ?_
                    refine r_aload0 (pc2 := 196) dX12_puts_195 rfl ?_
                    refine r_getR (pc2 := 199) dX12_puts_196 rfl fX12_89 (hK_317 hS) (hR_317_18 hS) ?_
                    refine r_iload8 (pc2 := 201) dX12_puts_199 rfl ?_
                    refine r_iload9 (pc2 := 203) dX12_puts_201 rfl ?_
                    refine r_ifeq (tgt := 210) (pc2 := 206) dX12_puts_203 rfl (by decide) ⟨by omega, by omega⟩ (fun _ => ?_) (fun h9 => absurd h9 (by decide))
                    refine r_aload0 (pc2 := 211) dX12_puts_210 rfl ?_
                    refine r_getR (pc2 := 214) dX12_puts_211 rfl fX12_74 (hK_317 hS) (hR_317_12 hS) ?_
                    refine r_iload1 (pc2 := 215) dX12_puts_214 rfl ?_
                    refine r_iconst (pc2 := 216) dX12_puts_215 rfl ?_
                    refine r_iadd (c := ((5 * i + 1 : Nat) : Int)) (pc2 := 217) dX12_puts_216 rfl (by omega) ?_
                    refine r_iald (z := z) (pc2 := 218) dX12_puts_217 rfl (hK_324 hS) (5 * i + 1) rfl (by omega) a2 ?_
                    refine r_iast (z := z) (pc2 := 219) dX12_puts_218 rfl (hK_329 hS) (by decide) q rfl (by omega) ?_
                    refine r_aload0 (pc2 := 220) dX12_puts_219 rfl ?_
                    refine r_getR (pc2 := 223) dX12_puts_220 rfl fX12_92 (hK_317 hS) (hR_317_19 hS) ?_
                    refine r_iload8 (pc2 := 225) dX12_puts_223 rfl ?_
                    refine r_iload9 (pc2 := 227) dX12_puts_225 rfl ?_
                    refine r_ifeq (tgt := 258) (pc2 := 230) dX12_puts_227 rfl (by decide) ⟨by omega, by omega⟩ (fun _ => ?_) (fun h9 => absurd h9 (by decide))
                    refine r_iconst (pc2 := 259) dX12_puts_258 rfl ?_
                    refine r_iast (z := 0) (pc2 := 260) dX12_puts_259 rfl (hK_330 hS) (by decide) q rfl (by omega) ?_
                    refine r_aload0 (pc2 := 261) dX12_puts_260 rfl ?_
                    refine r_dup (pc2 := 262) dX12_puts_261 rfl rfl ?_
                    refine r_getI (z := ((s.2.2.2.1 : Nat) : Int)) (pc2 := 265) dX12_puts_262 rfl (Or.inl fX12_266) (hK_317 hS) hQ.2.2.2 ?_
                    refine r_iconst (pc2 := 266) dX12_puts_265 rfl ?_
                    refine r_iadd (c := ((s.2.2.2.1 + 1 : Nat) : Int)) (pc2 := 267) dX12_puts_266 rfl (by omega) ?_
                    refine r_putI (z := ((s.2.2.2.1 + 1 : Nat) : Int)) (pc2 := 270) dX12_puts_267 rfl fX12_266 (w12_26 _) (hK_317 hS) (by decide) ?_
                    refine r_ret dX12_puts_270 rfl ?_
                    refine ⟨rfl, ?_, ((((frQ.rf.I (by unfold okQ; omega)).I (by unfold okQ; omega)).I (by unfold okQ; omega)).I (by unfold okQ; omega)).I (by unfold okQ; omega)⟩
                    rw [qPut_y (K := k) (Z := z) (V := 0) hq ⟨by omega, by omega, by omega, by omega⟩ (by omega) (fun c => hmv c.1) (by unfold kMir; (repeat' split) <;> omega) (by split <;> omega) (by (repeat' split) <;> omega)]
                    exact hQ.set (by omega)
                  · refine r_iconst (pc2 := 152) dX12_puts_151 rfl ?_
                    refine r_goto (tgt := 156) dX12_puts_152 (by decide) ?_
                    refine r_istore9 (pc2 := 158) dX12_puts_156 rfl rfl ?_
                    refine r_aload0 (pc2 := 159) dX12_puts_158 rfl ?_
                    refine r_getR (pc2 := 162) dX12_puts_159 rfl fX12_86 (hK_317 hS) (hR_317_17 hS) ?_
                    refine r_iload8 (pc2 := 164) dX12_puts_162 rfl ?_
                    refine r_iload2 (pc2 := 165) dX12_puts_164 rfl ?_
                    refine r_ifeq (tgt := 178) (pc2 := 168) dX12_puts_165 rfl (by decide) ⟨by omega, by omega⟩ (fun _ => ?_) (fun h9 => absurd h9 (by decide))
                    refine r_iload2 (pc2 := 179) dX12_puts_178 rfl ?_
                    refine r_ifeq (tgt := 192) (pc2 := 182) dX12_puts_179 rfl (by decide) ⟨by omega, by omega⟩ (fun _ => ?_) (fun h9 => absurd h9 (by decide))
                    refine r_iload5 (pc2 := 194) dX12_puts_192 rfl ?_
                    refine r_iast (z := k) (pc2 := 195) dX12_puts_194 rfl (hK_328 hS) (by decide) q rfl (by omega) ?_
                    refine r_aload0 (pc2 := 196) dX12_puts_195 rfl ?_
                    refine r_getR (pc2 := 199) dX12_puts_196 rfl fX12_89 (hK_317 hS) (hR_317_18 hS) ?_
                    refine r_iload8 (pc2 := 201) dX12_puts_199 rfl ?_
                    refine r_iload9 (pc2 := 203) dX12_puts_201 rfl ?_
                    refine r_ifeq (tgt := 210) (pc2 := 206) dX12_puts_203 rfl (by decide) ⟨by omega, by omega⟩ (fun h9 => absurd h9 (by decide)) (fun _ => ?_)
                    refine r_iconst (pc2 := 207) dX12_puts_206 rfl ?_
                    refine r_goto (tgt := 218) dX12_puts_207 (by decide) ?_
                    refine r_iast (z := 0) (pc2 := 219) dX12_puts_218 rfl (hK_329 hS) (by decide) q rfl (by omega) ?_
                    refine r_aload0 (pc2 := 220) dX12_puts_219 rfl ?_
                    refine r_getR (pc2 := 223) dX12_puts_220 rfl fX12_92 (hK_317 hS) (hR_317_19 hS) ?_
                    refine r_iload8 (pc2 := 225) dX12_puts_223 rfl ?_
                    refine r_iload9 (pc2 := 227) dX12_puts_225 rfl ?_
                    refine r_ifeq (tgt := 258) (pc2 := 230) dX12_puts_227 rfl (by decide) ⟨by omega, by omega⟩ (fun h9 => absurd h9 (by decide)) (fun _ => ?_)
                    refine r_iload2 (pc2 := 231) dX12_puts_230 rfl ?_
                    refine r_ifeq (tgt := 247) (pc2 := 234) dX12_puts_231 rfl (by decide) ⟨by omega, by omega⟩ (fun _ => ?_) (fun h9 => absurd h9 (by decide))
                    refine r_aload0 (pc2 := 248) dX12_puts_247 rfl ?_
                    refine r_getR (pc2 := 251) dX12_puts_248 rfl fX12_74 (hK_317 hS) (hR_317_12 hS) ?_
                    refine r_iload1 (pc2 := 252) dX12_puts_251 rfl ?_
                    refine r_iconst (pc2 := 253) dX12_puts_252 rfl ?_
                    refine r_iadd (c := ((5 * i + 1 : Nat) : Int)) (pc2 := 254) dX12_puts_253 rfl (by omega) ?_
                    refine r_iald (z := z) (pc2 := 255) dX12_puts_254 rfl (hK_324 hS) (5 * i + 1) rfl (by omega) a2 ?_
                    refine r_goto (tgt := 259) dX12_puts_255 (by decide) ?_
                    refine r_iast (z := z) (pc2 := 260) dX12_puts_259 rfl (hK_330 hS) (by decide) q rfl (by omega) ?_
                    refine r_aload0 (pc2 := 261) dX12_puts_260 rfl ?_
                    refine r_dup (pc2 := 262) dX12_puts_261 rfl rfl ?_
                    refine r_getI (z := ((s.2.2.2.1 : Nat) : Int)) (pc2 := 265) dX12_puts_262 rfl (Or.inl fX12_266) (hK_317 hS) hQ.2.2.2 ?_
                    refine r_iconst (pc2 := 266) dX12_puts_265 rfl ?_
                    refine r_iadd (c := ((s.2.2.2.1 + 1 : Nat) : Int)) (pc2 := 267) dX12_puts_266 rfl (by omega) ?_
                    refine r_putI (z := ((s.2.2.2.1 + 1 : Nat) : Int)) (pc2 := 270) dX12_puts_267 rfl fX12_266 (w12_26 _) (hK_317 hS) (by decide) ?_
                    refine r_ret dX12_puts_270 rfl ?_
                    refine ⟨rfl, ?_, ((((frQ.rf.I (by unfold okQ; omega)).I (by unfold okQ; omega)).I (by unfold okQ; omega)).I (by unfold okQ; omega)).I (by unfold okQ; omega)⟩
                    rw [qPut_y (K := k) (Z := 0) (V := z) hq ⟨by omega, by omega, by omega, by omega⟩ (by omega) (fun c => hmv c.1) (by unfold kMir; (repeat' split) <;> omega) (by split <;> omega) (by (repeat' split) <;> omega)]
                    exact hQ.set (by omega)
              · refine r_ret dX12_puts_137 rfl ?_
                exact absurd b_134 (by decide)
          · refine r_iconst (pc2 := 101) dX12_puts_100 rfl ?_
            refine r_goto (tgt := 127) dX12_puts_101 (by decide) ?_
            refine r_putI (z := 2) (pc2 := 130) dX12_puts_127 rfl fX12_260 (w12_24 _) (hK_317 hS) (by decide) ?_
            refine r_aload0 (pc2 := 131) dX12_puts_130 rfl ?_
            refine r_getI (z := 2) (pc2 := 134) dX12_puts_131 rfl (Or.inl fX12_260) (hK_317 hS) rfl ?_
            refine r_ifle (tgt := 138) (pc2 := 137) dX12_puts_134 rfl (by decide) ⟨by omega, by omega⟩ (fun b_134 => ?_) (fun b_134 => ?_)
            · refine r_iload5 (pc2 := 140) dX12_puts_138 rfl ?_
              refine r_iconst (pc2 := 141) dX12_puts_140 rfl ?_
              refine r_iceq (tgt := 151) (pc2 := 144) dX12_puts_141 rfl (by decide) ⟨by omega, by omega⟩ ⟨by omega, by omega⟩ (fun b_141 => ?_) (fun b_141 => ?_)
              · refine r_iconst (pc2 := 152) dX12_puts_151 rfl ?_
                refine r_goto (tgt := 156) dX12_puts_152 (by decide) ?_
                refine r_istore9 (pc2 := 158) dX12_puts_156 rfl rfl ?_
                refine r_aload0 (pc2 := 159) dX12_puts_158 rfl ?_
                refine r_getR (pc2 := 162) dX12_puts_159 rfl fX12_86 (hK_317 hS) (hR_317_17 hS) ?_
                refine r_iload8 (pc2 := 164) dX12_puts_162 rfl ?_
                refine r_iload2 (pc2 := 165) dX12_puts_164 rfl ?_
                refine r_ifeq (tgt := 178) (pc2 := 168) dX12_puts_165 rfl (by decide) ⟨by omega, by omega⟩ (fun _ => ?_) (fun h9 => absurd h9 (by decide))
                refine r_iload2 (pc2 := 179) dX12_puts_178 rfl ?_
                refine r_ifeq (tgt := 192) (pc2 := 182) dX12_puts_179 rfl (by decide) ⟨by omega, by omega⟩ (fun _ => ?_) (fun h9 => absurd h9 (by decide))
                refine r_iload5 (pc2 := 194) dX12_puts_192 rfl ?_
                refine r_iast (z := k) (pc2 := 195) dX12_puts_194 rfl (hK_328 hS) (by decide) q rfl (by omega) ?_
                refine r_aload0 (pc2 := 196) dX12_puts_195 rfl ?_
                refine r_getR (pc2 := 199) dX12_puts_196 rfl fX12_89 (hK_317 hS) (hR_317_18 hS) ?_
                refine r_iload8 (pc2 := 201) dX12_puts_199 rfl ?_
                refine r_iload9 (pc2 := 203) dX12_puts_201 rfl ?_
                refine r_ifeq (tgt := 210) (pc2 := 206) dX12_puts_203 rfl (by decide) ⟨by omega, by omega⟩ (fun h9 => absurd h9 (by decide)) (fun _ => ?_)
                refine r_iconst (pc2 := 207) dX12_puts_206 rfl ?_
                refine r_goto (tgt := 218) dX12_puts_207 (by decide) ?_
                refine r_iast (z := 0) (pc2 := 219) dX12_puts_218 rfl (hK_329 hS) (by decide) q rfl (by omega) ?_
                refine r_aload0 (pc2 := 220) dX12_puts_219 rfl ?_
                refine r_getR (pc2 := 223) dX12_puts_220 rfl fX12_92 (hK_317 hS) (hR_317_19 hS) ?_
                refine r_iload8 (pc2 := 225) dX12_puts_223 rfl ?_
                refine r_iload9 (pc2 := 227) dX12_puts_225 rfl ?_
                refine r_ifeq (tgt := 258) (pc2 := 230) dX12_puts_227 rfl (by decide) ⟨by omega, by omega⟩ (fun h9 => absurd h9 (by decide)) (fun _ => ?_)
                refine r_iload2 (pc2 := 231) dX12_puts_230 rfl ?_
                refine r_ifeq (tgt := 247) (pc2 := 234) dX12_puts_231 rfl (by decide) ⟨by omega, by omega⟩ (fun _ => ?_) (fun h9 => absurd h9 (by decide))
                refine r_aload0 (pc2 := 248) dX12_puts_247 rfl ?_
                refine r_getR (pc2 := 251) dX12_puts_248 rfl fX12_74 (hK_317 hS) (hR_317_12 hS) ?_
                refine r_iload1 (pc2 := 252) dX12_puts_251 rfl ?_
                refine r_iconst (pc2 := 253) dX12_puts_252 rfl ?_
                refine r_iadd (c := ((5 * i + 1 : Nat) : Int)) (pc2 := 254) dX12_puts_253 rfl (by omega) ?_
                refine r_iald (z := z) (pc2 := 255) dX12_puts_254 rfl (hK_324 hS) (5 * i + 1) rfl (by omega) a2 ?_
                refine r_goto (tgt := 259) dX12_puts_255 (by decide) ?_
                refine r_iast (z := z) (pc2 := 260) dX12_puts_259 rfl (hK_330 hS) (by decide) q rfl (by omega) ?_
                refine r_aload0 (pc2 := 261) dX12_puts_260 rfl ?_
                refine r_dup (pc2 := 262) dX12_puts_261 rfl rfl ?_
                refine r_getI (z := ((s.2.2.2.1 : Nat) : Int)) (pc2 := 265) dX12_puts_262 rfl (Or.inl fX12_266) (hK_317 hS) hQ.2.2.2 ?_
                refine r_iconst (pc2 := 266) dX12_puts_265 rfl ?_
                refine r_iadd (c := ((s.2.2.2.1 + 1 : Nat) : Int)) (pc2 := 267) dX12_puts_266 rfl (by omega) ?_
                refine r_putI (z := ((s.2.2.2.1 + 1 : Nat) : Int)) (pc2 := 270) dX12_puts_267 rfl fX12_266 (w12_26 _) (hK_317 hS) (by decide) ?_
                refine r_ret dX12_puts_270 rfl ?_
                exact absurd b_134 (by decide)
              · refine r_iload5 (pc2 := 146) dX12_puts_144 rfl ?_
                refine r_bipush (pc2 := 148) dX12_puts_146 rfl (by decide) (by decide) ?_
                refine r_icne (tgt := 155) (pc2 := 151) dX12_puts_148 rfl (by decide) ⟨by omega, by omega⟩ ⟨by omega, by omega⟩ (fun b_148 => ?_) (fun b_148 => ?_)
                · refine r_iconst (pc2 := 156) dX12_puts_155 rfl ?_
                  refine r_istore9 (pc2 := 158) dX12_puts_156 rfl rfl ?_
                  refine r_aload0 (pc2 := 159) dX12_puts_158 rfl ?_
                  refine r_getR (pc2 := 162) dX12_puts_159 rfl fX12_86 (hK_317 hS) (hR_317_17 hS) ?_
                  refine r_iload8 (pc2 := 164) dX12_puts_162 rfl ?_
                  refine r_iload2 (pc2 := 165) dX12_puts_164 rfl ?_
                  refine r_ifeq (tgt := 178) (pc2 := 168) dX12_puts_165 rfl (by decide) ⟨by omega, by omega⟩ (fun _ => ?_) (fun h9 => absurd h9 (by decide))
                  refine r_iload2 (pc2 := 179) dX12_puts_178 rfl ?_
                  refine r_ifeq (tgt := 192) (pc2 := 182) dX12_puts_179 rfl (by decide) ⟨by omega, by omega⟩ (fun _ => ?_) (fun h9 => absurd h9 (by decide))
                  refine r_iload5 (pc2 := 194) dX12_puts_192 rfl ?_
                  refine r_iast (z := k) (pc2 := 195) dX12_puts_194 rfl (hK_328 hS) (by decide) q rfl (by omega) ?_
                  refine r_aload0 (pc2 := 196) dX12_puts_195 rfl ?_
                  refine r_getR (pc2 := 199) dX12_puts_196 rfl fX12_89 (hK_317 hS) (hR_317_18 hS) ?_
                  refine r_iload8 (pc2 := 201) dX12_puts_199 rfl ?_
                  refine r_iload9 (pc2 := 203) dX12_puts_201 rfl ?_
                  refine r_ifeq (tgt := 210) (pc2 := 206) dX12_puts_203 rfl (by decide) ⟨by omega, by omega⟩ (fun _ => ?_) (fun h9 => absurd h9 (by decide))
                  refine r_aload0 (pc2 := 211) dX12_puts_210 rfl ?_
                  refine r_getR (pc2 := 214) dX12_puts_211 rfl fX12_74 (hK_317 hS) (hR_317_12 hS) ?_
                  refine r_iload1 (pc2 := 215) dX12_puts_214 rfl ?_
                  refine r_iconst (pc2 := 216) dX12_puts_215 rfl ?_
                  refine r_iadd (c := ((5 * i + 1 : Nat) : Int)) (pc2 := 217) dX12_puts_216 rfl (by omega) ?_
                  refine r_iald (z := z) (pc2 := 218) dX12_puts_217 rfl (hK_324 hS) (5 * i + 1) rfl (by omega) a2 ?_
                  refine r_iast (z := z) (pc2 := 219) dX12_puts_218 rfl (hK_329 hS) (by decide) q rfl (by omega) ?_
                  refine r_aload0 (pc2 := 220) dX12_puts_219 rfl ?_
                  refine r_getR (pc2 := 223) dX12_puts_220 rfl fX12_92 (hK_317 hS) (hR_317_19 hS) ?_
                  refine r_iload8 (pc2 := 225) dX12_puts_223 rfl ?_
                  refine r_iload9 (pc2 := 227) dX12_puts_225 rfl ?_
                  refine r_ifeq (tgt := 258) (pc2 := 230) dX12_puts_227 rfl (by decide) ⟨by omega, by omega⟩ (fun _ => ?_) (fun h9 => absurd h9 (by decide))
                  refine r_iconst (pc2 := 259) dX12_puts_258 rfl ?_
                  refine r_iast (z := 0) (pc2 := 260) dX12_puts_259 rfl (hK_330 hS) (by decide) q rfl (by omega) ?_
                  refine r_aload0 (pc2 := 261) dX12_puts_260 rfl ?_
                  refine r_dup (pc2 := 262) dX12_puts_261 rfl rfl ?_
                  refine r_getI (z := ((s.2.2.2.1 : Nat) : Int)) (pc2 := 265) dX12_puts_262 rfl (Or.inl fX12_266) (hK_317 hS) hQ.2.2.2 ?_
                  refine r_iconst (pc2 := 266) dX12_puts_265 rfl ?_
                  refine r_iadd (c := ((s.2.2.2.1 + 1 : Nat) : Int)) (pc2 := 267) dX12_puts_266 rfl (by omega) ?_
                  refine r_putI (z := ((s.2.2.2.1 + 1 : Nat) : Int)) (pc2 := 270) dX12_puts_267 rfl fX12_266 (w12_26 _) (hK_317 hS) (by decide) ?_
                  refine r_ret dX12_puts_270 rfl ?_
                  exact absurd b_134 (by decide)
                · refine r_iconst (pc2 := 152) dX12_puts_151 rfl ?_
                  refine r_goto (tgt := 156) dX12_puts_152 (by decide) ?_
                  refine r_istore9 (pc2 := 158) dX12_puts_156 rfl rfl ?_
                  refine r_aload0 (pc2 := 159) dX12_puts_158 rfl ?_
                  refine r_getR (pc2 := 162) dX12_puts_159 rfl fX12_86 (hK_317 hS) (hR_317_17 hS) ?_
                  refine r_iload8 (pc2 := 164) dX12_puts_162 rfl ?_
                  refine r_iload2 (pc2 := 165) dX12_puts_164 rfl ?_
                  refine r_ifeq (tgt := 178) (pc2 := 168) dX12_puts_165 rfl (by decide) ⟨by omega, by omega⟩ (fun _ => ?_) (fun h9 => absurd h9 (by decide))
                  refine r_iload2 (pc2 := 179) dX12_puts_178 rfl ?_
                  refine r_ifeq (tgt := 192) (pc2 := 182) dX12_puts_179 rfl (by decide) ⟨by omega, by omega⟩ (fun _ => ?_) (fun h9 => absurd h9 (by decide))
                  refine r_iload5 (pc2 := 194) dX12_puts_192 rfl ?_
                  refine r_iast (z := k) (pc2 := 195) dX12_puts_194 rfl (hK_328 hS) (by decide) q rfl (by omega) ?_
                  refine r_aload0 (pc2 := 196) dX12_puts_195 rfl ?_
                  refine r_getR (pc2 := 199) dX12_puts_196 rfl fX12_89 (hK_317 hS) (hR_317_18 hS) ?_
                  refine r_iload8 (pc2 := 201) dX12_puts_199 rfl ?_
                  refine r_iload9 (pc2 := 203) dX12_puts_201 rfl ?_
                  refine r_ifeq (tgt := 210) (pc2 := 206) dX12_puts_203 rfl (by decide) ⟨by omega, by omega⟩ (fun h9 => absurd h9 (by decide)) (fun _ => ?_)
                  refine r_iconst (pc2 := 207) dX12_puts_206 rfl ?_
                  refine r_goto (tgt := 218) dX12_puts_207 (by decide) ?_
                  refine r_iast (z := 0) (pc2 := 219) dX12_puts_218 rfl (hK_329 hS) (by decide) q rfl (by omega) ?_
                  refine r_aload0 (pc2 := 220) dX12_puts_219 rfl ?_
                  refine r_getR (pc2 := 223) dX12_puts_220 rfl fX12_92 (hK_317 hS) (hR_317_19 hS) ?_
                  refine r_iload8 (pc2 := 225) dX12_puts_223 rfl ?_
                  refine r_iload9 (pc2 := 227) dX12_puts_225 rfl ?_
                  refine r_ifeq (tgt := 258) (pc2 := 230) dX12_puts_227 rfl (by decide) ⟨by omega, by omega⟩ (fun h9 => absurd h9 (by decide)) (fun _ => ?_)
                  refine r_iload2 (pc2 := 231) dX12_puts_230 rfl ?_
                  refine r_ifeq (tgt := 247) (pc2 := 234) dX12_puts_231 rfl (by decide) ⟨by omega, by omega⟩ (fun _ => ?_) (fun h9 => absurd h9 (by decide))
                  refine r_aload0 (pc2 := 248) dX12_puts_247 rfl ?_
                  refine r_getR (pc2 := 251) dX12_puts_248 rfl fX12_74 (hK_317 hS) (hR_317_12 hS) ?_
                  refine r_iload1 (pc2 := 252) dX12_puts_251 rfl ?_
                  refine r_iconst (pc2 := 253) dX12_puts_252 rfl ?_
                  refine r_iadd (c := ((5 * i + 1 : Nat) : Int)) (pc2 := 254) dX12_puts_253 rfl (by omega) ?_
                  refine r_iald (z := z) (pc2 := 255) dX12_puts_254 rfl (hK_324 hS) (5 * i + 1) rfl (by omega) a2 ?_
                  refine r_goto (tgt := 259) dX12_puts_255 (by decide) ?_
                  refine r_iast (z := z) (pc2 := 260) dX12_puts_259 rfl (hK_330 hS) (by decide) q rfl (by omega) ?_
                  refine r_aload0 (pc2 := 261) dX12_puts_260 rfl ?_
                  refine r_dup (pc2 := 262) dX12_puts_261 rfl rfl ?_
                  refine r_getI (z := ((s.2.2.2.1 : Nat) : Int)) (pc2 := 265) dX12_puts_262 rfl (Or.inl fX12_266) (hK_317 hS) hQ.2.2.2 ?_
                  refine r_iconst (pc2 := 266) dX12_puts_265 rfl ?_
                  refine r_iadd (c := ((s.2.2.2.1 + 1 : Nat) : Int)) (pc2 := 267) dX12_puts_266 rfl (by omega) ?_
                  refine r_putI (z := ((s.2.2.2.1 + 1 : Nat) : Int)) (pc2 := 270) dX12_puts_267 rfl fX12_266 (w12_26 _) (hK_317 hS) (by decide) ?_
                  refine r_ret dX12_puts_270 rfl ?_
                  exact absurd b_134 (by decide)
            · refine r_ret dX12_puts_137 rfl ?_
              refine ⟨rfl, ?_, frQ.rf.I (by unfold okQ; omega)⟩
              unfold qPut
              rw [← hq, if_neg (show ¬ ¬ (0 ≤ X ∧ X < 13 ∧ 0 ≤ Y ∧ Y < 12) by omega), if_pos (show ¬ s.1.1.1 q = 0 by omega)]
              exact hQ.re
        · refine r_aload0 (pc2 := 74) dX12_puts_73 rfl ?_
          refine r_iconst (pc2 := 75) dX12_puts_74 rfl ?_
          refine r_putI (z := 1) (pc2 := 78) dX12_puts_75 rfl fX12_260 (w12_24 _) (hK_317 hS) (by decide) ?_
          refine r_ret dX12_puts_78 rfl ?_
          refine ⟨rfl, ?_, frQ.rf.I (by unfold okQ; omega)⟩
          unfold qPut
          rw [if_pos (show ¬ (0 ≤ X ∧ X < 13 ∧ 0 ≤ Y ∧ Y < 12) by omega)]
          exact hQ.re
set_option maxHeartbeats 4000000 in
theorem c_X12_puts1 {d : Nat} {M : pM} {i q : Nat} {k z x y dx dy X Y : Int} {s : qS} (hS : sOk M.1) (hQ : MQq M s) (ho : qOk s) (hi : i < 125) (a1 : M.2.1 324 (5 * i) = k) (a2 : M.2.1 324 (5 * i + 1) = z) (a3 : M.2.1 324 (5 * i + 2) = x) (a4 : M.2.1 324 (5 * i + 3) = y) (hk : 1 ≤ k ∧ k ≤ 9) (hz : 0 ≤ z ∧ z ≤ 9) (hX : (-x) + dx = X) (hY : y + dy = Y) (hx2 : -50000 ≤ X ∧ X ≤ 50000) (hy2 : -50000 ≤ Y ∧ Y ≤ 50000) (hq : q = (13 * Y + X).toNat) : Ct (d + 4) 0 0 yX12_puts [.ref 317, .int (iI ((5 * i : Nat) : Int)), .int (iI 1), .int (iI dx), .int (iI dy)] M (fun v M2 => v = none ∧ MQq M2 (qPut k z X Y 1 s) ∧ frQ M M2) := by
  refine ct_in (d := (d + 3)) kX12_puts rfl (by decide) (Nat.le_of_ble_eq_true rfl) (by decide) ?_
  show Go (Ct (d + 3)) _ yX12_puts cX12_puts none 0 0 0 [some (.ref 317), some (.int (iI ((5 * i : Nat) : Int))), some (.int (iI 1)), some (.int (iI dx)), some (.int (iI dy)), none, none, none, none, none] [] M
  have hr := ho.2.2.2.2
  have hpc : 0 ≤ X → X < 13 → 0 ≤ Y → Y < 12 → 0 ≤ s.1.1.1 q ∧ s.1.1.1 q ≤ 9 := fun b1 b2 b3 b4 => bK_pc ho.2.1 q (by omega)
  have hmc := ho.1.2.2
  refine r_aload0 (pc2 := 1) dX12_puts_0 rfl ?_
  refine r_getR (pc2 := 4) dX12_puts_1 rfl fX12_74 (hK_317 hS) (hR_317_12 hS) ?_
  refine r_iload1 (pc2 := 5) dX12_puts_4 rfl ?_
  refine r_iald (z := k) (pc2 := 6) dX12_puts_5 rfl (hK_324 hS) (5 * i) rfl (by omega) a1 ?_
  refine r_istore5 (pc2 := 8) dX12_puts_6 rfl rfl ?_
  refine r_iload2 (pc2 := 9) dX12_puts_8 rfl ?_
  refine r_ifeq (tgt := 24) (pc2 := 12) dX12_puts_9 rfl (by decide) ⟨by omega, by omega⟩ (fun h9 => absurd h9 (by decide)) (fun _ => ?_)
  refine r_aload0 (pc2 := 13) dX12_puts_12 rfl ?_
  refine r_getR (pc2 := 16) dX12_puts_13 rfl fX12_74 (hK_317 hS) (hR_317_12 hS) ?_
  refine r_iload1 (pc2 := 17) dX12_puts_16 rfl ?_
  refine r_iconst (pc2 := 18) dX12_puts_17 rfl ?_
  refine r_iadd (c := ((5 * i + 2 : Nat) : Int)) (pc2 := 19) dX12_puts_18 rfl (by omega) ?_
  refine r_iald (z := x) (pc2 := 20) dX12_puts_19 rfl (hK_324 hS) (5 * i + 2) rfl (by omega) a3 ?_
  refine r_ineg (c := (-x)) (pc2 := 21) dX12_puts_20 rfl rfl ?_
  refine r_goto (tgt := 32) dX12_puts_21 (by decide) ?_
  refine r_iload3 (pc2 := 33) dX12_puts_32 rfl ?_
  refine r_iadd (c := X) (pc2 := 34) dX12_puts_33 rfl hX ?_
  refine r_istore6 (pc2 := 36) dX12_puts_34 rfl rfl ?_
  refine r_aload0 (pc2 := 37) dX12_puts_36 rfl ?_
  refine r_getR (pc2 := 40) dX12_puts_37 rfl fX12_74 (hK_317 hS) (hR_317_12 hS) ?_
  refine r_iload1 (pc2 := 41) dX12_puts_40 rfl ?_
  refine r_iconst (pc2 := 42) dX12_puts_41 rfl ?_
  refine r_iadd (c := ((5 * i + 3 : Nat) : Int)) (pc2 := 43) dX12_puts_42 rfl (by omega) ?_
  refine r_iald (z := y) (pc2 := 44) dX12_puts_43 rfl (hK_324 hS) (5 * i + 3) rfl (by omega) a4 ?_
  refine r_iload4 (pc2 := 46) dX12_puts_44 rfl ?_
  refine r_iadd (c := Y) (pc2 := 47) dX12_puts_46 rfl hY ?_
  refine r_istore7 (pc2 := 49) dX12_puts_47 rfl rfl ?_
  refine r_iload6 (pc2 := 51) dX12_puts_49 rfl ?_
  refine r_iflt (tgt := 73) (pc2 := 54) dX12_puts_51 rfl (by decide) ⟨by omega, by omega⟩ (fun b_51 => ?_) (fun b_51 => ?_)
  · refine r_aload0 (pc2 := 74) dX12_puts_73 rfl ?_
    refine r_iconst (pc2 := 75) dX12_puts_74 rfl ?_
    refine r_putI (z := 1) (pc2 := 78) dX12_puts_75 rfl fX12_260 (w12_24 _) (hK_317 hS) (by decide) ?_
    refine r_ret dX12_puts_78 rfl ?_
    refine ⟨rfl, ?_, frQ.rf.I (by unfold okQ; omega)⟩
    unfold qPut
    rw [if_pos (show ¬ (0 ≤ X ∧ X < 13 ∧ 0 ≤ Y ∧ Y < 12) by omega)]
    exact hQ.re
  · refine r_iload6 (pc2 := 56) dX12_puts_54 rfl ?_
    refine r_bipush (pc2 := 58) dX12_puts_56 rfl (by decide) (by decide) ?_
    refine r_icge (tgt := 73) (pc2 := 61) dX12_puts_58 rfl (by decide) ⟨by omega, by omega⟩ ⟨by omega, by omega⟩ (fun b_58 => ?_) (fun b_58 => ?_)
    · refine r_aload0 (pc2 := 74) dX12_puts_73 rfl ?_
      refine r_iconst (pc2 := 75) dX12_puts_74 rfl ?_
      refine r_putI (z := 1) (pc2 := 78) dX12_puts_75 rfl fX12_260 (w12_24 _) (hK_317 hS) (by decide) ?_
      refine r_ret dX12_puts_78 rfl ?_
      refine ⟨rfl, ?_, frQ.rf.I (by unfold okQ; omega)⟩
      unfold qPut
      rw [if_pos (show ¬ (0 ≤ X ∧ X < 13 ∧ 0 ≤ Y ∧ Y < 12) by omega)]
      exact hQ.re
    · refine r_iload7 (pc2 := 63) dX12_puts_61 rfl ?_
      refine r_iflt (tgt := 73) (pc2 := 66) dX12_puts_63 rfl (by decide) ⟨by omega, by omega⟩ (fun b_63 => ?_) (fun b_63 => ?_)
      · refine r_aload0 (pc2 := 74) dX12_puts_73 rfl ?_
        refine r_iconst (pc2 := 75) dX12_puts_74 rfl ?_
        refine r_putI (z := 1) (pc2 := 78) dX12_puts_75 rfl fX12_260 (w12_24 _) (hK_317 hS) (by decide) ?_
        refine r_ret dX12_puts_78 rfl ?_
        refine ⟨rfl, ?_, frQ.rf.I (by unfold okQ; omega)⟩
        unfold qPut
        rw [if_pos (show ¬ (0 ≤ X ∧ X < 13 ∧ 0 ≤ Y ∧ Y < 12) by omega)]
        exact hQ.re
      · refine r_iload7 (pc2 := 68) dX12_puts_66 rfl ?_
        refine r_bipush (pc2 := 70) dX12_puts_68 rfl (by decide) (by decide) ?_
        refine r_iclt (tgt := 79) (pc2 := 73) dX12_puts_70 rfl (by decide) ⟨by omega, by omega⟩ ⟨by omega, by omega⟩ (fun b_70 => ?_) (fun b_70 => ?_)
        · refine r_bipush (pc2 := 81) dX12_puts_79 rfl (by decide) (by decide) ?_
          refine r_iload7 (pc2 := 83) dX12_puts_81 rfl ?_
          refine r_imul (c := (13 * Y)) (pc2 := 84) dX12_puts_83 rfl rfl ?_
          refine r_iload6 (pc2 := 86) dX12_puts_84 rfl ?_
          refine r_iadd (c := ((q : Nat) : Int)) (pc2 := 87) dX12_puts_86 rfl (by omega) ?_
          refine r_istore8 (pc2 := 89) dX12_puts_87 rfl rfl ?_
          refine r_aload0 (pc2 := 90) dX12_puts_89 rfl ?_
          refine r_aload0 (pc2 := 91) dX12_puts_90 rfl ?_
          refine r_getR (pc2 := 94) dX12_puts_91 rfl fX12_86 (hK_317 hS) (hR_317_17 hS) ?_
          refine r_iload8 (pc2 := 96) dX12_puts_94 rfl ?_
          refine r_iald (z := (s.1.1.1 q)) (pc2 := 97) dX12_puts_96 rfl (hK_328 hS) q rfl (by omega) (hQ.1.1 q (by omega)).1 ?_
          refine r_ifle (tgt := 104) (pc2 := 100) dX12_puts_97 rfl (by decide) ⟨by omega, by omega⟩ (fun b_97 => ?_) (fun b_97 => ?_)
          · refine r_iload5 (pc2 := 106) dX12_puts_104 rfl ?_
            refine r_cs1 (pc2 := 109) dX12_puts_106 rfl sX12_250 (Nat.le_of_ble_eq_true rfl) (c_X12_isMoving (d := d + 2) (k := k) ⟨by omega, by omega⟩) ?_
            by_cases hmv : k = 4 ∨ k = 7 ∨ k = 9
            · rintro _ M9 ⟨rfl, h9⟩
              rw [h9, if_pos hmv]
              show Go (Ct (d + 3)) _ yX12_puts cX12_puts none 0 0 109 [some (.ref 317), some (.int (iI ((5 * i : Nat) : Int))), some (.int (iI 1)), some (.int (iI dx)), some (.int (iI dy)), some (.int (iI k)), some (.int (iI X)), some (.int (iI Y)), some (.int (iI ((q : Nat) : Int))), none] [.int (iI 1), .ref 317] M
              refine r_ifeq (tgt := 126) (pc2 := 112) dX12_puts_109 rfl (by decide) ⟨by omega, by omega⟩ (fun h9 => absurd h9 (by decide)) (fun _ => ?_)
              refine r_aload0 (pc2 := 113) dX12_puts_112 rfl ?_
              refine r_iconst (pc2 := 114) dX12_puts_113 rfl ?_
              refine r_cv1 (pc2 := 117) dX12_puts_114 rfl vX12_288 (hK_317 hS) (Nat.le_of_ble_eq_true rfl) (c_X12_movingOn (d := d + 1) (pc := s.1.1.1) hS (fun p hp => ⟨(hQ.1.1 p hp).1, bK_pc ho.2.1 p hp⟩)) ?_
              rintro _ M9 ⟨rfl, h9⟩
              rw [h9]
              show Go (Ct (d + 3)) _ yX12_puts cX12_puts none 0 0 117 [some (.ref 317), some (.int (iI ((5 * i : Nat) : Int))), some (.int (iI 1)), some (.int (iI dx)), some (.int (iI dy)), some (.int (iI k)), some (.int (iI X)), some (.int (iI Y)), some (.int (iI ((q : Nat) : Int))), none] [.int (iI ((mvc s.1.1.1 156 : Nat) : Int)), .ref 317] M
              refine r_bipush (pc2 := 119) dX12_puts_117 rfl (by decide) (by decide) ?_
              refine r_icne (tgt := 126) (pc2 := 122) dX12_puts_119 rfl (by decide) ⟨by omega, by omega⟩ ⟨by omega, by omega⟩ (fun b_119 => ?_) (fun b_119 => ?_)
              · refine r_iconst (pc2 := 127) dX12_puts_126 rfl ?_
                refine r_putI (z := 0) (pc2 := 130) dX12_puts_127 rfl fX12_260 (w12_24 _) (hK_317 hS) (by decide) ?_
                refine r_aload0 (pc2 := 131) dX12_puts_130 rfl ?_
                refine r_getI (z := 0) (pc2 := 134) dX12_puts_131 rfl (Or.inl fX12_260) (hK_317 hS) rfl ?_
                refine r_ifle (tgt := 138) (pc2 := 137) dX12_puts_134 rfl (by decide) ⟨by omega, by omega⟩ (fun b_134 => ?_) (fun b_134 => ?_)
                · refine r_iload5 (pc2 := 140) dX12_puts_138 rfl ?_
                  refine r_iconst (pc2 := 141) dX12_puts_140 rfl ?_
                  refine r_iceq (tgt := 151) (pc2 := 144) dX12_puts_141 rfl (by decide) ⟨by omega, by omega⟩ ⟨by omega, by omega⟩ (fun b_141 => ?_) (fun b_141 => ?_)
                  · refine r_iconst (pc2 := 152) dX12_puts_151 rfl ?_
                    refine r_goto (tgt := 156) dX12_puts_152 (by decide) ?_
                    refine r_istore9 (pc2 := 158) dX12_puts_156 rfl rfl ?_
                    refine r_aload0 (pc2 := 159) dX12_puts_158 rfl ?_
                    refine r_getR (pc2 := 162) dX12_puts_159 rfl fX12_86 (hK_317 hS) (hR_317_17 hS) ?_
                    refine r_iload8 (pc2 := 164) dX12_puts_162 rfl ?_
                    refine r_iload2 (pc2 := 165) dX12_puts_164 rfl ?_
                    refine r_ifeq (tgt := 178) (pc2 := 168) dX12_puts_165 rfl (by decide) ⟨by omega, by omega⟩ (fun h9 => absurd h9 (by decide)) (fun _ => ?_)
                    refine r_iload5 (pc2 := 170) dX12_puts_168 rfl ?_
                    refine r_iconst (pc2 := 171) dX12_puts_170 rfl ?_
                    refine r_icne (tgt := 178) (pc2 := 174) dX12_puts_171 rfl (by decide) ⟨by omega, by omega⟩ ⟨by omega, by omega⟩ (fun b_171 => ?_) (fun b_171 => ?_)
                    · refine r_iload2 (pc2 := 179) dX12_puts_178 rfl ?_
                      refine r_ifeq (tgt := 192) (pc2 := 182) dX12_puts_179 rfl (by decide) ⟨by omega, by omega⟩ (fun h9 => absurd h9 (by decide)) (fun _ => ?_)
                      refine r_iload5 (pc2 := 184) dX12_puts_182 rfl ?_
                      refine r_iconst (pc2 := 185) dX12_puts_184 rfl ?_
                      refine r_icne (tgt := 192) (pc2 := 188) dX12_puts_185 rfl (by decide) ⟨by omega, by omega⟩ ⟨by omega, by omega⟩ (fun b_185 => ?_) (fun b_185 => ?_)
                      · refine r_iload5 (pc2 := 194) dX12_puts_192 rfl ?_
                        refine r_iast (z := k) (pc2 := 195) dX12_puts_194 rfl (hK_328 hS) (by decide) q rfl (by omega) ?_
                        refine r_aload0 (pc2 := 196) dX12_puts_195 rfl ?_
                        refine r_getR (pc2 := 199) dX12_puts_196 rfl fX12_89 (hK_317 hS) (hR_317_18 hS) ?_
                        refine r_iload8 (pc2 := 201) dX12_puts_199 rfl ?_
                        refine r_iload9 (pc2 := 203) dX12_puts_201 rfl ?_
                        refine r_ifeq (tgt := 210) (pc2 := 206) dX12_puts_203 rfl (by decide) ⟨by omega, by omega⟩ (fun h9 => absurd h9 (by decide)) (fun _ => ?_)
                        refine r_iconst (pc2 := 207) dX12_puts_206 rfl ?_
                        refine r_goto (tgt := 218) dX12_puts_207 (by decide) ?_
                        refine r_iast (z := 0) (pc2 := 219) dX12_puts_218 rfl (hK_329 hS) (by decide) q rfl (by omega) ?_
                        refine r_aload0 (pc2 := 220) dX12_puts_219 rfl ?_
                        refine r_getR (pc2 := 223) dX12_puts_220 rfl fX12_92 (hK_317 hS) (hR_317_19 hS) ?_
                        refine r_iload8 (pc2 := 225) dX12_puts_223 rfl ?_
                        refine r_iload9 (pc2 := 227) dX12_puts_225 rfl ?_
                        refine r_ifeq (tgt := 258) (pc2 := 230) dX12_puts_227 rfl (by decide) ⟨by omega, by omega⟩ (fun h9 => absurd h9 (by decide)) (fun _ => ?_)
                        refine r_iload2 (pc2 := 231) dX12_puts_230 rfl ?_
                        refine r_ifeq (tgt := 247) (pc2 := 234) dX12_puts_231 rfl (by decide) ⟨by omega, by omega⟩ (fun h9 => absurd h9 (by decide)) (fun _ => ?_)
                        refine r_iconst (pc2 := 235) dX12_puts_234 rfl ?_
                        refine r_aload0 (pc2 := 236) dX12_puts_235 rfl ?_
                        refine r_getR (pc2 := 239) dX12_puts_236 rfl fX12_74 (hK_317 hS) (hR_317_12 hS) ?_
                        refine r_iload1 (pc2 := 240) dX12_puts_239 rfl ?_
                        refine r_iconst (pc2 := 241) dX12_puts_240 rfl ?_
                        refine r_iadd (c := ((5 * i + 1 : Nat) : Int)) (pc2 := 242) dX12_puts_241 rfl (by omega) ?_
                        refine r_iald (z := z) (pc2 := 243) dX12_puts_242 rfl (hK_324 hS) (5 * i + 1) rfl (by omega) a2 ?_
                        refine r_isub (c := (1 - z)) (pc2 := 244) dX12_puts_243 rfl rfl ?_
                        refine r_goto (tgt := 259) dX12_puts_244 (by decide) ?_
                        refine r_iast (z := (1 - z)) (pc2 := 260) dX12_puts_259 rfl (hK_330 hS) (by decide) q rfl (by omega) ?_
                        refine r_aload0 (pc2 := 261) dX12_puts_260 rfl ?_
                        refine r_dup (pc2 := 262) dX12_puts_261 rfl rfl ?_
                        refine r_getI (z := ((s.2.2.2.1 : Nat) : Int)) (pc2 := 265) dX12_puts_262 rfl (Or.inl fX12_266) (hK_317 hS) hQ.2.2.2 ?_
                        refine r_iconst (pc2 := 266) dX12_puts_265 rfl ?_
                        refine r_iadd (c := ((s.2.2.2.1 + 1 : Nat) : Int)) (pc2 := 267) dX12_puts_266 rfl (by omega) ?_
                        refine r_putI (z := ((s.2.2.2.1 + 1 : Nat) : Int)) (pc2 := 270) dX12_puts_267 rfl fX12_266 (w12_26 _) (hK_317 hS) (by decide) ?_
                        refine r_ret dX12_puts_270 rfl ?_
                        refine ⟨rfl, ?_, ((((frQ.rf.I (by unfold okQ; omega)).I (by unfold okQ; omega)).I (by unfold okQ; omega)).I (by unfold okQ; omega)).I (by unfold okQ; omega)⟩
                        rw [qPut_y (K := k) (Z := 0) (V := (1 - z)) hq ⟨by omega, by omega, by omega, by omega⟩ (by omega) (fun c => by omega) (by unfold kMir; (repeat' split) <;> omega) (by split <;> omega) (by (repeat' split) <;> omega)]
                        exact hQ.set (by omega)
                      · refine r_iconst (pc2 := 189) dX12_puts_188 rfl ?_
                        refine r_goto (tgt := 194) dX12_puts_189 (by decide) ?_
                        refine r_iast (z := 1) (pc2 := 195) dX12_puts_194 rfl (hK_328 hS) (by decide) q rfl (by omega) ?_
                        refine r_aload0 (pc2 := 196) dX12_puts_195 rfl ?_
                        refine r_getR (pc2 := 199) dX12_puts_196 rfl fX12_89 (hK_317 hS) (hR_317_18 hS) ?_
                        refine r_iload8 (pc2 := 201) dX12_puts_199 rfl ?_
                        refine r_iload9 (pc2 := 203) dX12_puts_201 rfl ?_
                        refine r_ifeq (tgt := 210) (pc2 := 206) dX12_puts_203 rfl (by decide) ⟨by omega, by omega⟩ (fun h9 => absurd h9 (by decide)) (fun _ => ?_)
                        refine r_iconst (pc2 := 207) dX12_puts_206 rfl ?_
                        refine r_goto (tgt := 218) dX12_puts_207 (by decide) ?_
                        refine r_iast (z := 0) (pc2 := 219) dX12_puts_218 rfl (hK_329 hS) (by decide) q rfl (by omega) ?_
                        refine r_aload0 (pc2 := 220) dX12_puts_219 rfl ?_
                        refine r_getR (pc2 := 223) dX12_puts_220 rfl fX12_92 (hK_317 hS) (hR_317_19 hS) ?_
                        refine r_iload8 (pc2 := 225) dX12_puts_223 rfl ?_
                        refine r_iload9 (pc2 := 227) dX12_puts_225 rfl ?_
                        refine r_ifeq (tgt := 258) (pc2 := 230) dX12_puts_227 rfl (by decide) ⟨by omega, by omega⟩ (fun h9 => absurd h9 (by decide)) (fun _ => ?_)
                        refine r_iload2 (pc2 := 231) dX12_puts_230 rfl ?_
                        refine r_ifeq (tgt := 247) (pc2 := 234) dX12_puts_231 rfl (by decide) ⟨by omega, by omega⟩ (fun h9 => absurd h9 (by decide)) (fun _ => ?_)
                        refine r_iconst (pc2 := 235) dX12_puts_234 rfl ?_
                        refine r_aload0 (pc2 := 236) dX12_puts_235 rfl ?_
                        refine r_getR (pc2 := 239) dX12_puts_236 rfl fX12_74 (hK_317 hS) (hR_317_12 hS) ?_
                        refine r_iload1 (pc2 := 240) dX12_puts_239 rfl ?_
                        refine r_iconst (pc2 := 241) dX12_puts_240 rfl ?_
                        refine r_iadd (c := ((5 * i + 1 : Nat) : Int)) (pc2 := 242) dX12_puts_241 rfl (by omega) ?_
                        refine r_iald (z := z) (pc2 := 243) dX12_puts_242 rfl (hK_324 hS) (5 * i + 1) rfl (by omega) a2 ?_
                        refine r_isub (c := (1 - z)) (pc2 := 244) dX12_puts_243 rfl rfl ?_
                        refine r_goto (tgt := 259) dX12_puts_244 (by decide) ?_
                        refine r_iast (z := (1 - z)) (pc2 := 260) dX12_puts_259 rfl (hK_330 hS) (by decide) q rfl (by omega) ?_
                        refine r_aload0 (pc2 := 261) dX12_puts_260 rfl ?_
                        refine r_dup (pc2 := 262) dX12_puts_261 rfl rfl ?_
                        refine r_getI (z := ((s.2.2.2.1 : Nat) : Int)) (pc2 := 265) dX12_puts_262 rfl (Or.inl fX12_266) (hK_317 hS) hQ.2.2.2 ?_
                        refine r_iconst (pc2 := 266) dX12_puts_265 rfl ?_
                        refine r_iadd (c := ((s.2.2.2.1 + 1 : Nat) : Int)) (pc2 := 267) dX12_puts_266 rfl (by omega) ?_
                        refine r_putI (z := ((s.2.2.2.1 + 1 : Nat) : Int)) (pc2 := 270) dX12_puts_267 rfl fX12_266 (w12_26 _) (hK_317 hS) (by decide) ?_
                        refine r_ret dX12_puts_270 rfl ?_
                        refine ⟨rfl, ?_, ((((frQ.rf.I (by unfold okQ; omega)).I (by unfold okQ; omega)).I (by unfold okQ; omega)).I (by unfold okQ; omega)).I (by unfold okQ; omega)⟩
                        rw [qPut_y (K := 1) (Z := 0) (V := (1 - z)) hq ⟨by omega, by omega, by omega, by omega⟩ (by omega) (fun c => by omega) (by unfold kMir; (repeat' split) <;> omega) (by split <;> omega) (by (repeat' split) <;> omega)]
                        exact hQ.set (by omega)
                    · refine r_iconst (pc2 := 175) dX12_puts_174 rfl ?_
                      refine r_goto (tgt := 194) dX12_puts_175 (by decide) ?_
                      refine r_iast (z := 2) (pc2 := 195) dX12_puts_194 rfl (hK_328 hS) (by decide) q rfl (by omega) ?_
                      refine r_aload0 (pc2 := 196) dX12_puts_195 rfl ?_
                      refine r_getR (pc2 := 199) dX12_puts_196 rfl fX12_89 (hK_317 hS) (hR_317_18 hS) ?_
                      refine r_iload8 (pc2 := 201) dX12_puts_199 rfl ?_
                      refine r_iload9 (pc2 := 203) dX12_puts_201 rfl ?_
                      refine r_ifeq (tgt := 210) (pc2 := 206) dX12_puts_203 rfl (by decide) ⟨by omega, by omega⟩ (fun h9 => absurd h9 (by decide)) (fun _ => ?_)
                      refine r_iconst (pc2 := 207) dX12_puts_206 rfl ?_
                      refine r_goto (tgt := 218) dX12_puts_207 (by decide) ?_
                      refine r_iast (z := 0) (pc2 := 219) dX12_puts_218 rfl (hK_329 hS) (by decide) q rfl (by omega) ?_
                      refine r_aload0 (pc2 := 220) dX12_puts_219 rfl ?_
                      refine r_getR (pc2 := 223) dX12_puts_220 rfl fX12_92 (hK_317 hS) (hR_317_19 hS) ?_
                      refine r_iload8 (pc2 := 225) dX12_puts_223 rfl ?_
                      refine r_iload9 (pc2 := 227) dX12_puts_225 rfl ?_
                      refine r_ifeq (tgt := 258) (pc2 := 230) dX12_puts_227 rfl (by decide) ⟨by omega, by omega⟩ (fun h9 => absurd h9 (by decide)) (fun _ => ?_)
                      refine r_iload2 (pc2 := 231) dX12_puts_230 rfl ?_
                      refine r_ifeq (tgt := 247) (pc2 := 234) dX12_puts_231 rfl (by decide) ⟨by omega, by omega⟩ (fun h9 => absurd h9 (by decide)) (fun _ => ?_)
                      refine r_iconst (pc2 := 235) dX12_puts_234 rfl ?_
                      refine r_aload0 (pc2 := 236) dX12_puts_235 rfl ?_
                      refine r_getR (pc2 := 239) dX12_puts_236 rfl fX12_74 (hK_317 hS) (hR_317_12 hS) ?_
                      refine r_iload1 (pc2 := 240) dX12_puts_239 rfl ?_
                      refine r_iconst (pc2 := 241) dX12_puts_240 rfl ?_
                      refine r_iadd (c := ((5 * i + 1 : Nat) : Int)) (pc2 := 242) dX12_puts_241 rfl (by omega) ?_
                      refine r_iald (z := z) (pc2 := 243) dX12_puts_242 rfl (hK_324 hS) (5 * i + 1) rfl (by omega) a2 ?_
                      refine r_isub (c := (1 - z)) (pc2 := 244) dX12_puts_243 rfl rfl ?_
                      refine r_goto (tgt := 259) dX12_puts_244 (by decide) ?_
                      refine r_iast (z := (1 - z)) (pc2 := 260) dX12_puts_259 rfl (hK_330 hS) (by decide) q rfl (by omega) ?_
                      refine r_aload0 (pc2 := 261) dX12_puts_260 rfl ?_
                      refine r_dup (pc2 := 262) dX12_puts_261 rfl rfl ?_
                      refine r_getI (z := ((s.2.2.2.1 : Nat) : Int)) (pc2 := 265) dX12_puts_262 rfl (Or.inl fX12_266) (hK_317 hS) hQ.2.2.2 ?_
                      refine r_iconst (pc2 := 266) dX12_puts_265 rfl ?_
                      refine r_iadd (c := ((s.2.2.2.1 + 1 : Nat) : Int)) (pc2 := 267) dX12_puts_266 rfl (by omega) ?_
                      refine r_putI (z := ((s.2.2.2.1 + 1 : Nat) : Int)) (pc2 := 270) dX12_puts_267 rfl fX12_266 (w12_26 _) (hK_317 hS) (by decide) ?_
                      refine r_ret dX12_puts_270 rfl ?_
                      refine ⟨rfl, ?_, ((((frQ.rf.I (by unfold okQ; omega)).I (by unfold okQ; omega)).I (by unfold okQ; omega)).I (by unfold okQ; omega)).I (by unfold okQ; omega)⟩
                      rw [qPut_y (K := 2) (Z := 0) (V := (1 - z)) hq ⟨by omega, by omega, by omega, by omega⟩ (by omega) (fun c => by omega) (by unfold kMir; (repeat' split) <;> omega) (by split <;> omega) (by (repeat' split) <;> omega)]
                      exact hQ.set (by omega)
                  · refine r_iload5 (pc2 := 146) dX12_puts_144 rfl ?_
                    refine r_bipush (pc2 := 148) dX12_puts_146 rfl (by decide) (by decide) ?_
                    refine r_icne (tgt := 155) (pc2 := 151) dX12_puts_148 rfl (by decide) ⟨by omega, by omega⟩ ⟨by omega, by omega⟩ (fun b_148 => ?_) (fun b_148 => ?_)
                    · refine r_iconst (pc2 := 156) dX12_puts_155 rfl ?_
                      refine r_istore9 (pc2 := 158) dX12_puts_156 rfl rfl ?_
                      refine r_aload0 (pc2 := 159) dX12_puts_158 rfl ?_
                      refine r_getR (pc2 := 162) dX12_puts_159 rfl fX12_86 (hK_317 hS) (hR_317_17 hS) ?_
                      refine r_iload8 (pc2 := 164) dX12_puts_162 rfl ?_
                      refine r_iload2 (pc2 := 165) dX12_puts_164 rfl ?_
                      refine r_ifeq (tgt := 178) (pc2 := 168) dX12_puts_165 rfl (by decide) ⟨by omega, by omega⟩ (fun h9 => absurd h9 (by decide)) (fun _ => ?_)
                      refine r_iload5 (pc2 := 170) dX12_puts_168 rfl ?_
                      refine r_iconst (pc2 := 171) dX12_puts_170 rfl ?_
                      refine r_icne (tgt := 178) (pc2 := 174) dX12_puts_171 rfl (by decide) ⟨by omega, by omega⟩ ⟨by omega, by omega⟩ (fun b_171 => ?_) (fun b_171 => ?_)
                      · refine r_iload2 (pc2 := 179) dX12_puts_178 rfl ?_
                        refine r_ifeq (tgt := 192) (pc2 := 182) dX12_puts_179 rfl (by decide) ⟨by omega, by omega⟩ (fun h9 => absurd h9 (by decide)) (fun _ => ?_)
                        refine r_iload5 (pc2 := 184) dX12_puts_182 rfl ?_
                        refine r_iconst (pc2 := 185) dX12_puts_184 rfl ?_
                        refine r_icne (tgt := 192) (pc2 := 188) dX12_puts_185 rfl (by decide) ⟨by omega, by omega⟩ ⟨by omega, by omega⟩ (fun b_185 => ?_) (fun b_185 => ?_)
                        · refine r_iload5 (pc2 := 194) dX12_puts_192 rfl ?_
                          refine r_iast (z := k) (pc2 := 195) dX12_puts_194 rfl (hK_328 hS) (by decide) q rfl (by omega) ?_
                          refine r_aload0 (pc2 := 196) dX12_puts_195 rfl ?_
                          refine r_getR (pc2 := 199) dX12_puts_196 rfl fX12_89 (hK_317 hS) (hR_317_18 hS) ?_
                          refine r_iload8 (pc2 := 201) dX12_puts_199 rfl ?_
                          refine r_iload9 (pc2 := 203) dX12_puts_201 rfl ?_
                          refine r_ifeq (tgt := 210) (pc2 := 206) dX12_puts_203 rfl (by decide) ⟨by omega, by omega⟩ (fun _ => ?_) (fun h9 => absurd h9 (by decide))
                          refine r_aload0 (pc2 := 211) dX12_puts_210 rfl ?_
                          refine r_getR (pc2 := 214) dX12_puts_211 rfl fX12_74 (hK_317 hS) (hR_317_12 hS) ?_
                          refine r_iload1 (pc2 := 215) dX12_puts_214 rfl ?_
                          refine r_iconst (pc2 := 216) dX12_puts_215 rfl ?_
                          refine r_iadd (c := ((5 * i + 1 : Nat) : Int)) (pc2 := 217) dX12_puts_216 rfl (by omega) ?_
                          refine r_iald (z := z) (pc2 := 218) dX12_puts_217 rfl (hK_324 hS) (5 * i + 1) rfl (by omega) a2 ?_
                          refine r_iast (z := z) (pc2 := 219) dX12_puts_218 rfl (hK_329 hS) (by decide) q rfl (by omega) ?_
                          refine r_aload0 (pc2 := 220) dX12_puts_219 rfl ?_
                          refine r_getR (pc2 := 223) dX12_puts_220 rfl fX12_92 (hK_317 hS) (hR_317_19 hS) ?_
                          refine r_iload8 (pc2 := 225) dX12_puts_223 rfl ?_
                          refine r_iload9 (pc2 := 227) dX12_puts_225 rfl ?_
                          refine r_ifeq (tgt := 258) (pc2 := 230) dX12_puts_227 rfl (by decide) ⟨by omega, by omega⟩ (fun _ => ?_) (fun h9 => absurd h9 (by decide))
                          refine r_iconst (pc2 := 259) dX12_puts_258 rfl ?_
                          refine r_iast (z := 0) (pc2 := 260) dX12_puts_259 rfl (hK_330 hS) (by decide) q rfl (by omega) ?_
                          refine r_aload0 (pc2 := 261) dX12_puts_260 rfl ?_
                          refine r_dup (pc2 := 262) dX12_puts_261 rfl rfl ?_
                          refine r_getI (z := ((s.2.2.2.1 : Nat) : Int)) (pc2 := 265) dX12_puts_262 rfl (Or.inl fX12_266) (hK_317 hS) hQ.2.2.2 ?_
                          refine r_iconst (pc2 := 266) dX12_puts_265 rfl ?_
                          refine r_iadd (c := ((s.2.2.2.1 + 1 : Nat) : Int)) (pc2 := 267) dX12_puts_266 rfl (by omega) ?_
                          refine r_putI (z := ((s.2.2.2.1 + 1 : Nat) : Int)) (pc2 := 270) dX12_puts_267 rfl fX12_266 (w12_26 _) (hK_317 hS) (by decide) ?_
                          refine r_ret dX12_puts_270 rfl ?_
                          refine ⟨rfl, ?_, ((((frQ.rf.I (by unfold okQ; omega)).I (by unfold okQ; omega)).I (by unfold okQ; omega)).I (by unfold okQ; omega)).I (by unfold okQ; omega)⟩
                          rw [qPut_y (K := k) (Z := z) (V := 0) hq ⟨by omega, by omega, by omega, by omega⟩ (by omega) (fun c => by omega) (by unfold kMir; (repeat' split) <;> omega) (by split <;> omega) (by (repeat' split) <;> omega)]
                          exact hQ.set (by omega)
                        · refine r_iconst (pc2 := 189) dX12_puts_188 rfl ?_
                          refine r_goto (tgt := 194) dX12_puts_189 (by decide) ?_
                          refine r_iast (z := 1) (pc2 := 195) dX12_puts_194 rfl (hK_328 hS) (by decide) q rfl (by omega) ?_
                          refine r_aload0 (pc2 := 196) dX12_puts_195 rfl ?_
                          refine r_getR (pc2 := 199) dX12_puts_196 rfl fX12_89 (hK_317 hS) (hR_317_18 hS) ?_
                          refine r_iload8 (pc2 := 201) dX12_puts_199 rfl ?_
                          refine r_iload9 (pc2 := 203) dX12_puts_201 rfl ?_
                          refine r_ifeq (tgt := 210) (pc2 := 206) dX12_puts_203 rfl (by decide) ⟨by omega, by omega⟩ (fun _ => ?_) (fun h9 => absurd h9 (by decide))
                          refine r_aload0 (pc2 := 211) dX12_puts_210 rfl ?_
                          refine r_getR (pc2 := 214) dX12_puts_211 rfl fX12_74 (hK_317 hS) (hR_317_12 hS) ?_
                          refine r_iload1 (pc2 := 215) dX12_puts_214 rfl ?_
                          refine r_iconst (pc2 := 216) dX12_puts_215 rfl ?_
                          refine r_iadd (c := ((5 * i + 1 : Nat) : Int)) (pc2 := 217) dX12_puts_216 rfl (by omega) ?_
                          refine r_iald (z := z) (pc2 := 218) dX12_puts_217 rfl (hK_324 hS) (5 * i + 1) rfl (by omega) a2 ?_
                          refine r_iast (z := z) (pc2 := 219) dX12_puts_218 rfl (hK_329 hS) (by decide) q rfl (by omega) ?_
                          refine r_aload0 (pc2 := 220) dX12_puts_219 rfl ?_
                          refine r_getR (pc2 := 223) dX12_puts_220 rfl fX12_92 (hK_317 hS) (hR_317_19 hS) ?_
                          refine r_iload8 (pc2 := 225) dX12_puts_223 rfl ?_
                          refine r_iload9 (pc2 := 227) dX12_puts_225 rfl ?_
                          refine r_ifeq (tgt := 258) (pc2 := 230) dX12_puts_227 rfl (by decide) ⟨by omega, by omega⟩ (fun _ => ?_) (fun h9 => absurd h9 (by decide))
                          refine r_iconst (pc2 := 259) dX12_puts_258 rfl ?_
                          refine r_iast (z := 0) (pc2 := 260) dX12_puts_259 rfl (hK_330 hS) (by decide) q rfl (by omega) ?_
                          refine r_aload0 (pc2 := 261) dX12_puts_260 rfl ?_
                          refine r_dup (pc2 := 262) dX12_puts_261 rfl rfl ?_
                          refine r_getI (z := ((s.2.2.2.1 : Nat) : Int)) (pc2 := 265) dX12_puts_262 rfl (Or.inl fX12_266) (hK_317 hS) hQ.2.2.2 ?_
                          refine r_iconst (pc2 := 266) dX12_puts_265 rfl ?_
                          refine r_iadd (c := ((s.2.2.2.1 + 1 : Nat) : Int)) (pc2 := 267) dX12_puts_266 rfl (by omega) ?_
                          refine r_putI (z := ((s.2.2.2.1 + 1 : Nat) : Int)) (pc2 := 270) dX12_puts_267 rfl fX12_266 (w12_26 _) (hK_317 hS) (by decide) ?_
                          refine r_ret dX12_puts_270 rfl ?_
                          refine ⟨rfl, ?_, ((((frQ.rf.I (by unfold okQ; omega)).I (by unfold okQ; omega)).I (by unfold okQ; omega)).I (by unfold okQ; omega)).I (by unfold okQ; omega)⟩
                          rw [qPut_y (K := 1) (Z := z) (V := 0) hq ⟨by omega, by omega, by omega, by omega⟩ (by omega) (fun c => by omega) (by unfold kMir; (repeat' split) <;> omega) (by split <;> omega) (by (repeat' split) <;> omega)]
                          exact hQ.set (by omega)
                      · refine r_iconst (pc2 := 175) dX12_puts_174 rfl ?_
                        refine r_goto (tgt := 194) dX12_puts_175 (by decide) ?_
                        refine r_iast (z := 2) (pc2 := 195) dX12_puts_194 rfl (hK_328 hS) (by decide) q rfl (by omega) ?_
                        refine r_aload0 (pc2 := 196) dX12_puts_195 rfl ?_
                        refine r_getR (pc2 := 199) dX12_puts_196 rfl fX12_89 (hK_317 hS) (hR_317_18 hS) ?_
                        refine r_iload8 (pc2 := 201) dX12_puts_199 rfl ?_
                        refine r_iload9 (pc2 := 203) dX12_puts_201 rfl ?_
                        refine r_ifeq (tgt := 210) (pc2 := 206) dX12_puts_203 rfl (by decide) ⟨by omega, by omega⟩ (fun _ => ?_) (fun h9 => absurd h9 (by decide))
                        refine r_aload0 (pc2 := 211) dX12_puts_210 rfl ?_
                        refine r_getR (pc2 := 214) dX12_puts_211 rfl fX12_74 (hK_317 hS) (hR_317_12 hS) ?_
                        refine r_iload1 (pc2 := 215) dX12_puts_214 rfl ?_
                        refine r_iconst (pc2 := 216) dX12_puts_215 rfl ?_
                        refine r_iadd (c := ((5 * i + 1 : Nat) : Int)) (pc2 := 217) dX12_puts_216 rfl (by omega) ?_
                        refine r_iald (z := z) (pc2 := 218) dX12_puts_217 rfl (hK_324 hS) (5 * i + 1) rfl (by omega) a2 ?_
                        refine r_iast (z := z) (pc2 := 219) dX12_puts_218 rfl (hK_329 hS) (by decide) q rfl (by omega) ?_
                        refine r_aload0 (pc2 := 220) dX12_puts_219 rfl ?_
                        refine r_getR (pc2 := 223) dX12_puts_220 rfl fX12_92 (hK_317 hS) (hR_317_19 hS) ?_
                        refine r_iload8 (pc2 := 225) dX12_puts_223 rfl ?_
                        refine r_iload9 (pc2 := 227) dX12_puts_225 rfl ?_
                        refine r_ifeq (tgt := 258) (pc2 := 230) dX12_puts_227 rfl (by decide) ⟨by omega, by omega⟩ (fun _ => ?_) (fun h9 => absurd h9 (by decide))
                        refine r_iconst (pc2 := 259) dX12_puts_258 rfl ?_
                        refine r_iast (z := 0) (pc2 := 260) dX12_puts_259 rfl (hK_330 hS) (by decide) q rfl (by omega) ?_
                        refine r_aload0 (pc2 := 261) dX12_puts_260 rfl ?_
                        refine r_dup (pc2 := 262) dX12_puts_261 rfl rfl ?_
                        refine r_getI (z := ((s.2.2.2.1 : Nat) : Int)) (pc2 := 265) dX12_puts_262 rfl (Or.inl fX12_266) (hK_317 hS) hQ.2.2.2 ?_
                        refine r_iconst (pc2 := 266) dX12_puts_265 rfl ?_
                        refine r_iadd (c := ((s.2.2.2.1 + 1 : Nat) : Int)) (pc2 := 267) dX12_puts_266 rfl (by omega) ?_
                        refine r_putI (z := ((s.2.2.2.1 + 1 : Nat) : Int)) (pc2 := 270) dX12_puts_267 rfl fX12_266 (w12_26 _) (hK_317 hS) (by decide) ?_
                        refine r_ret dX12_puts_270 rfl ?_
                        refine ⟨rfl, ?_, ((((frQ.rf.I (by unfold okQ; omega)).I (by unfold okQ; omega)).I (by unfold okQ; omega)).I (by unfold okQ; omega)).I (by unfold okQ; omega)⟩
                        rw [qPut_y (K := 2) (Z := z) (V := 0) hq ⟨by omega, by omega, by omega, by omega⟩ (by omega) (fun c => by omega) (by unfold kMir; (repeat' split) <;> omega) (by split <;> omega) (by (repeat' split) <;> omega)]
                        exact hQ.set (by omega)
                    · refine r_iconst (pc2 := 152) dX12_puts_151 rfl ?_
                      refine r_goto (tgt := 156) dX12_puts_152 (by decide) ?_
                      refine r_istore9 (pc2 := 158) dX12_puts_156 rfl rfl ?_
                      refine r_aload0 (pc2 := 159) dX12_puts_158 rfl ?_
                      refine r_getR (pc2 := 162) dX12_puts_159 rfl fX12_86 (hK_317 hS) (hR_317_17 hS) ?_
                      refine r_iload8 (pc2 := 164) dX12_puts_162 rfl ?_
                      refine r_iload2 (pc2 := 165) dX12_puts_164 rfl ?_
                      refine r_ifeq (tgt := 178) (pc2 := 168) dX12_puts_165 rfl (by decide) ⟨by omega, by omega⟩ (fun h9 => absurd h9 (by decide)) (fun _ => ?_)
                      refine r_iload5 (pc2 := 170) dX12_puts_168 rfl ?_
                      refine r_iconst (pc2 := 171) dX12_puts_170 rfl ?_
                      refine r_icne (tgt := 178) (pc2 := 174) dX12_puts_171 rfl (by decide) ⟨by omega, by omega⟩ ⟨by omega, by omega⟩ (fun b_171 => ?_) (fun b_171 => ?_)
                      · refine r_iload2 (pc2 := 179) dX12_puts_178 rfl ?_
                        refine r_ifeq (tgt := 192) (pc2 := 182) dX12_puts_179 rfl (by decide) ⟨by omega, by omega⟩ (fun h9 => absurd h9 (by decide)) (fun _ => ?_)
                        refine r_iload5 (pc2 := 184) dX12_puts_182 rfl ?_
                        refine r_iconst (pc2 := 185) dX12_puts_184 rfl ?_
                        refine r_icne (tgt := 192) (pc2 := 188) dX12_puts_185 rfl (by decide) ⟨by omega, by omega⟩ ⟨by omega, by omega⟩ (fun b_185 => ?_) (fun b_185 => ?_)
                        · refine r_iload5 (pc2 := 194) dX12_puts_192 rfl ?_
                          refine r_iast (z := k) (pc2 := 195) dX12_puts_194 rfl (hK_328 hS) (by decide) q rfl (by omega) ?_
                          refine r_aload0 (pc2 := 196) dX12_puts_195 rfl ?_
                          refine r_getR (pc2 := 199) dX12_puts_196 rfl fX12_89 (hK_317 hS) (hR_317_18 hS) ?_
                          refine r_iload8 (pc2 := 201) dX12_puts_199 rfl ?_
                          refine r_iload9 (pc2 := 203) dX12_puts_201 rfl ?_
                          refine r_ifeq (tgt := 210) (pc2 := 206) dX12_puts_203 rfl (by decide) ⟨by omega, by omega⟩ (fun h9 => absurd h9 (by decide)) (fun _ => ?_)
                          refine r_iconst (pc2 := 207) dX12_puts_206 rfl ?_
                          refine r_goto (tgt := 218) dX12_puts_207 (by decide) ?_
                          refine r_iast (z := 0) (pc2 := 219) dX12_puts_218 rfl (hK_329 hS) (by decide) q rfl (by omega) ?_
                          refine r_aload0 (pc2 := 220) dX12_puts_219 rfl ?_
                          refine r_getR (pc2 := 223) dX12_puts_220 rfl fX12_92 (hK_317 hS) (hR_317_19 hS) ?_
                          refine r_iload8 (pc2 := 225) dX12_puts_223 rfl ?_
                          refine r_iload9 (pc2 := 227) dX12_puts_225 rfl ?_
                          refine r_ifeq (tgt := 258) (pc2 := 230) dX12_puts_227 rfl (by decide) ⟨by omega, by omega⟩ (fun h9 => absurd h9 (by decide)) (fun _ => ?_)
                          refine r_iload2 (pc2 := 231) dX12_puts_230 rfl ?_
                          refine r_ifeq (tgt := 247) (pc2 := 234) dX12_puts_231 rfl (by decide) ⟨by omega, by omega⟩ (fun h9 => absurd h9 (by decide)) (fun _ => ?_)
                          refine r_iconst (pc2 := 235) dX12_puts_234 rfl ?_
                          refine r_aload0 (pc2 := 236) dX12_puts_235 rfl ?_
                          refine r_getR (pc2 := 239) dX12_puts_236 rfl fX12_74 (hK_317 hS) (hR_317_12 hS) ?_
                          refine r_iload1 (pc2 := 240) dX12_puts_239 rfl ?_
                          refine r_iconst (pc2 := 241) dX12_puts_240 rfl ?_
                          refine r_iadd (c := ((5 * i + 1 : Nat) : Int)) (pc2 := 242) dX12_puts_241 rfl (by omega) ?_
                          refine r_iald (z := z) (pc2 := 243) dX12_puts_242 rfl (hK_324 hS) (5 * i + 1) rfl (by omega) a2 ?_
                          refine r_isub (c := (1 - z)) (pc2 := 244) dX12_puts_243 rfl rfl ?_
                          refine r_goto (tgt := 259) dX12_puts_244 (by decide) ?_
                          refine r_iast (z := (1 - z)) (pc2 := 260) dX12_puts_259 rfl (hK_330 hS) (by decide) q rfl (by omega) ?_
                          refine r_aload0 (pc2 := 261) dX12_puts_260 rfl ?_
                          refine r_dup (pc2 := 262) dX12_puts_261 rfl rfl ?_
                          refine r_getI (z := ((s.2.2.2.1 : Nat) : Int)) (pc2 := 265) dX12_puts_262 rfl (Or.inl fX12_266) (hK_317 hS) hQ.2.2.2 ?_
                          refine r_iconst (pc2 := 266) dX12_puts_265 rfl ?_
                          refine r_iadd (c := ((s.2.2.2.1 + 1 : Nat) : Int)) (pc2 := 267) dX12_puts_266 rfl (by omega) ?_
                          refine r_putI (z := ((s.2.2.2.1 + 1 : Nat) : Int)) (pc2 := 270) dX12_puts_267 rfl fX12_266 (w12_26 _) (hK_317 hS) (by decide) ?_
                          refine r_ret dX12_puts_270 rfl ?_
                          refine ⟨rfl, ?_, ((((frQ.rf.I (by unfold okQ; omega)).I (by unfold okQ; omega)).I (by unfold okQ; omega)).I (by unfold okQ; omega)).I (by unfold okQ; omega)⟩
                          rw [qPut_y (K := k) (Z := 0) (V := (1 - z)) hq ⟨by omega, by omega, by omega, by omega⟩ (by omega) (fun c => by omega) (by unfold kMir; (repeat' split) <;> omega) (by split <;> omega) (by (repeat' split) <;> omega)]
                          exact hQ.set (by omega)
                        · refine r_iconst (pc2 := 189) dX12_puts_188 rfl ?_
                          refine r_goto (tgt := 194) dX12_puts_189 (by decide) ?_
                          refine r_iast (z := 1) (pc2 := 195) dX12_puts_194 rfl (hK_328 hS) (by decide) q rfl (by omega) ?_
                          refine r_aload0 (pc2 := 196) dX12_puts_195 rfl ?_
                          refine r_getR (pc2 := 199) dX12_puts_196 rfl fX12_89 (hK_317 hS) (hR_317_18 hS) ?_
                          refine r_iload8 (pc2 := 201) dX12_puts_199 rfl ?_
                          refine r_iload9 (pc2 := 203) dX12_puts_201 rfl ?_
                          refine r_ifeq (tgt := 210) (pc2 := 206) dX12_puts_203 rfl (by decide) ⟨by omega, by omega⟩ (fun h9 => absurd h9 (by decide)) (fun _ => ?_)
                          refine r_iconst (pc2 := 207) dX12_puts_206 rfl ?_
                          refine r_goto (tgt := 218) dX12_puts_207 (by decide) ?_
                          refine r_iast (z := 0) (pc2 := 219) dX12_puts_218 rfl (hK_329 hS) (by decide) q rfl (by omega) ?_
                          refine r_aload0 (pc2 := 220) dX12_puts_219 rfl ?_
                          refine r_getR (pc2 := 223) dX12_puts_220 rfl fX12_92 (hK_317 hS) (hR_317_19 hS) ?_
                          refine r_iload8 (pc2 := 225) dX12_puts_223 rfl ?_
                          refine r_iload9 (pc2 := 227) dX12_puts_225 rfl ?_
                          refine r_ifeq (tgt := 258) (pc2 := 230) dX12_puts_227 rfl (by decide) ⟨by omega, by omega⟩ (fun h9 => absurd h9 (by decide)) (fun _ => ?_)
                          refine r_iload2 (pc2 := 231) dX12_puts_230 rfl ?_
                          refine r_ifeq (tgt := 247) (pc2 := 234) dX12_puts_231 rfl (by decide) ⟨by omega, by omega⟩ (fun h9 => absurd h9 (by decide)) (fun _ => ?_)
                          refine r_iconst (pc2 := 235) dX12_puts_234 rfl ?_
                          refine r_aload0 (pc2 := 236) dX12_puts_235 rfl ?_
                          refine r_getR (pc2 := 239) dX12_puts_236 rfl fX12_74 (hK_317 hS) (hR_317_12 hS) ?_
                          refine r_iload1 (pc2 := 240) dX12_puts_239 rfl ?_
                          refine r_iconst (pc2 := 241) dX12_puts_240 rfl ?_
                          refine r_iadd (c := ((5 * i + 1 : Nat) : Int)) (pc2 := 242) dX12_puts_241 rfl (by omega) ?_
                          refine r_iald (z := z) (pc2 := 243) dX12_puts_242 rfl (hK_324 hS) (5 * i + 1) rfl (by omega) a2 ?_
                          refine r_isub (c := (1 - z)) (pc2 := 244) dX12_puts_243 rfl rfl ?_
                          refine r_goto (tgt := 259) dX12_puts_244 (by decide) ?_
                          refine r_iast (z := (1 - z)) (pc2 := 260) dX12_puts_259 rfl (hK_330 hS) (by decide) q rfl (by omega) ?_
                          refine r_aload0 (pc2 := 261) dX12_puts_260 rfl ?_
                          refine r_dup (pc2 := 262) dX12_puts_261 rfl rfl ?_
                          refine r_getI (z := ((s.2.2.2.1 : Nat) : Int)) (pc2 := 265) dX12_puts_262 rfl (Or.inl fX12_266) (hK_317 hS) hQ.2.2.2 ?_
                          refine r_iconst (pc2 := 266) dX12_puts_265 rfl ?_
                          refine r_iadd (c := ((s.2.2.2.1 + 1 : Nat) : Int)) (pc2 := 267) dX12_puts_266 rfl (by omega) ?_
                          refine r_putI (z := ((s.2.2.2.1 + 1 : Nat) : Int)) (pc2 := 270) dX12_puts_267 rfl fX12_266 (w12_26 _) (hK_317 hS) (by decide) ?_
                          refine r_ret dX12_puts_270 rfl ?_
                          refine ⟨rfl, ?_, ((((frQ.rf.I (by unfold okQ; omega)).I (by unfold okQ; omega)).I (by unfold okQ; omega)).I (by unfold okQ; omega)).I (by unfold okQ; omega)⟩
                          rw [qPut_y (K := 1) (Z := 0) (V := (1 - z)) hq ⟨by omega, by omega, by omega, by omega⟩ (by omega) (fun c => by omega) (by unfold kMir; (repeat' split) <;> omega) (by split <;> omega) (by (repeat' split) <;> omega)]
                          exact hQ.set (by omega)
                      · refine r_iconst (pc2 := 175) dX12_puts_174 rfl ?_
                        refine r_goto (tgt := 194) dX12_puts_175 (by decide) ?_
                        refine r_iast (z := 2) (pc2 := 195) dX12_puts_194 rfl (hK_328 hS) (by decide) q rfl (by omega) ?_
                        refine r_aload0 (pc2 := 196) dX12_puts_195 rfl ?_
                        refine r_getR (pc2 := 199) dX12_puts_196 rfl fX12_89 (hK_317 hS) (hR_317_18 hS) ?_
                        refine r_iload8 (pc2 := 201) dX12_puts_199 rfl ?_
                        refine r_iload9 (pc2 := 203) dX12_puts_201 rfl ?_
                        refine r_ifeq (tgt := 210) (pc2 := 206) dX12_puts_203 rfl (by decide) ⟨by omega, by omega⟩ (fun h9 => absurd h9 (by decide)) (fun _ => ?_)
                        refine r_iconst (pc2 := 207) dX12_puts_206 rfl ?_
                        refine r_goto (tgt := 218) dX12_puts_207 (by decide) ?_
                        refine r_iast (z := 0) (pc2 := 219) dX12_puts_218 rfl (hK_329 hS) (by decide) q rfl (by omega) ?_
                        refine r_aload0 (pc2 := 220) dX12_puts_219 rfl ?_
                        refine r_getR (pc2 := 223) dX12_puts_220 rfl fX12_92 (hK_317 hS) (hR_317_19 hS) ?_
                        refine r_iload8 (pc2 := 225) dX12_puts_223 rfl ?_
                        refine r_iload9 (pc2 := 227) dX12_puts_225 rfl ?_
                        refine r_ifeq (tgt := 258) (pc2 := 230) dX12_puts_227 rfl (by decide) ⟨by omega, by omega⟩ (fun h9 => absurd h9 (by decide)) (fun _ => ?_)
                        refine r_iload2 (pc2 := 231) dX12_puts_230 rfl ?_
                        refine r_ifeq (tgt := 247) (pc2 := 234) dX12_puts_231 rfl (by decide) ⟨by omega, by omega⟩ (fun h9 => absurd h9 (by decide)) (fun _ => ?_)
                        refine r_iconst (pc2 := 235) dX12_puts_234 rfl ?_
                        refine r_aload0 (pc2 := 236) dX12_puts_235 rfl ?_
                        refine r_getR (pc2 := 239) dX12_puts_236 rfl fX12_74 (hK_317 hS) (hR_317_12 hS) ?_
                        refine r_iload1 (pc2 := 240) dX12_puts_239 rfl ?_
                        refine r_iconst (pc2 := 241) dX12_puts_240 rfl ?_
                        refine r_iadd (c := ((5 * i + 1 : Nat) : Int)) (pc2 := 242) dX12_puts_241 rfl (by omega) ?_
                        refine r_iald (z := z) (pc2 := 243) dX12_puts_242 rfl (hK_324 hS) (5 * i + 1) rfl (by omega) a2 ?_
                        refine r_isub (c := (1 - z)) (pc2 := 244) dX12_puts_243 rfl rfl ?_
                        refine r_goto (tgt := 259) dX12_puts_244 (by decide) ?_
                        refine r_iast (z := (1 - z)) (pc2 := 260) dX12_puts_259 rfl (hK_330 hS) (by decide) q rfl (by omega) ?_
                        refine r_aload0 (pc2 := 261) dX12_puts_260 rfl ?_
                        refine r_dup (pc2 := 262) dX12_puts_261 rfl rfl ?_
                        refine r_getI (z := ((s.2.2.2.1 : Nat) : Int)) (pc2 := 265) dX12_puts_262 rfl (Or.inl fX12_266) (hK_317 hS) hQ.2.2.2 ?_
                        refine r_iconst (pc2 := 266) dX12_puts_265 rfl ?_
                        refine r_iadd (c := ((s.2.2.2.1 + 1 : Nat) : Int)) (pc2 := 267) dX12_puts_266 rfl (by omega) ?_
                        refine r_putI (z := ((s.2.2.2.1 + 1 : Nat) : Int)) (pc2 := 270) dX12_puts_267 rfl fX12_266 (w12_26 _) (hK_317 hS) (by decide) ?_
                        refine r_ret dX12_puts_270 rfl ?_
                        refine ⟨rfl, ?_, ((((frQ.rf.I (by unfold okQ; omega)).I (by unfold okQ; omega)).I (by unfold okQ; omega)).I (by unfold okQ; omega)).I (by unfold okQ; omega)⟩
                        rw [qPut_y (K := 2) (Z := 0) (V := (1 - z)) hq ⟨by omega, by omega, by omega, by omega⟩ (by omega) (fun c => by omega) (by unfold kMir; (repeat' split) <;> omega) (by split <;> omega) (by (repeat' split) <;> omega)]
                        exact hQ.set (by omega)
                · refine r_ret dX12_puts_137 rfl ?_
                  exact absurd b_134 (by decide)
              · refine r_iconst (pc2 := 123) dX12_puts_122 rfl ?_
                refine r_goto (tgt := 127) dX12_puts_123 (by decide) ?_
                refine r_putI (z := 3) (pc2 := 130) dX12_puts_127 rfl fX12_260 (w12_24 _) (hK_317 hS) (by decide) ?_
                refine r_aload0 (pc2 := 131) dX12_puts_130 rfl ?_
                refine r_getI (z := 3) (pc2 := 134) dX12_puts_131 rfl (Or.inl fX12_260) (hK_317 hS) rfl ?_
                refine r_ifle (tgt := 138) (pc2 := 137) dX12_puts_134 rfl (by decide) ⟨by omega, by omega⟩ (fun b_134 => ?_) (fun b_134 => ?_)
                · refine r_iload5 (pc2 := 140) dX12_puts_138 rfl ?_
                  refine r_iconst (pc2 := 141) dX12_puts_140 rfl ?_
                  refine r_iceq (tgt := 151) (pc2 := 144) dX12_puts_141 rfl (by decide) ⟨by omega, by omega⟩ ⟨by omega, by omega⟩ (fun b_141 => ?_) (fun b_141 => ?_)
                  · refine r_iconst (pc2 := 152) dX12_puts_151 rfl ?_
                    refine r_goto (tgt := 156) dX12_puts_152 (by decide) ?_
                    refine r_istore9 (pc2 := 158) dX12_puts_156 rfl rfl ?_
                    refine r_aload0 (pc2 := 159) dX12_puts_158 rfl ?_
                    refine r_getR (pc2 := 162) dX12_puts_159 rfl fX12_86 (hK_317 hS) (hR_317_17 hS) ?_
                    refine r_iload8 (pc2 := 164) dX12_puts_162 rfl ?_
                    refine r_iload2 (pc2 := 165) dX12_puts_164 rfl ?_
                    refine r_ifeq (tgt := 178) (pc2 := 168) dX12_puts_165 rfl (by decide) ⟨by omega, by omega⟩ (fun h9 => absurd h9 (by decide)) (fun _ => ?_)
                    refine r_iload5 (pc2 := 170) dX12_puts_168 rfl ?_
                    refine r_iconst (pc2 := 171) dX12_puts_170 rfl ?_
                    refine r_icne (tgt := 178) (pc2 := 174) dX12_puts_171 rfl (by decide) ⟨by omega, by omega⟩ ⟨by omega, by omega⟩ (fun b_171 => ?_) (fun b_171 => ?_)
                    · refine r_iload2 (pc2 := 179) dX12_puts_178 rfl ?_
                      refine r_ifeq (tgt := 192) (pc2 := 182) dX12_puts_179 rfl (by decide) ⟨by omega, by omega⟩ (fun h9 => absurd h9 (by decide)) (fun _ => ?_)
                      refine r_iload5 (pc2 := 184) dX12_puts_182 rfl ?_
                      refine r_iconst (pc2 := 185) dX12_puts_184 rfl ?_
                      refine r_icne (tgt := 192) (pc2 := 188) dX12_puts_185 rfl (by decide) ⟨by omega, by omega⟩ ⟨by omega, by omega⟩ (fun b_185 => ?_) (fun b_185 => ?_)
                      · refine r_iload5 (pc2 := 194) dX12_puts_192 rfl ?_
                        refine r_iast (z := k) (pc2 := 195) dX12_puts_194 rfl (hK_328 hS) (by decide) q rfl (by omega) ?_
                        refine r_aload0 (pc2 := 196) dX12_puts_195 rfl ?_
                        refine r_getR (pc2 := 199) dX12_puts_196 rfl fX12_89 (hK_317 hS) (hR_317_18 hS) ?_
                        refine r_iload8 (pc2 := 201) dX12_puts_199 rfl ?_
                        refine r_iload9 (pc2 := 203) dX12_puts_201 rfl ?_
                        refine r_ifeq (tgt := 210) (pc2 := 206) dX12_puts_203 rfl (by decide) ⟨by omega, by omega⟩ (fun h9 => absurd h9 (by decide)) (fun _ => ?_)
                        refine r_iconst (pc2 := 207) dX12_puts_206 rfl ?_
                        refine r_goto (tgt := 218) dX12_puts_207 (by decide) ?_
                        refine r_iast (z := 0) (pc2 := 219) dX12_puts_218 rfl (hK_329 hS) (by decide) q rfl (by omega) ?_
                        refine r_aload0 (pc2 := 220) dX12_puts_219 rfl ?_
                        refine r_getR (pc2 := 223) dX12_puts_220 rfl fX12_92 (hK_317 hS) (hR_317_19 hS) ?_
                        refine r_iload8 (pc2 := 225) dX12_puts_223 rfl ?_
                        refine r_iload9 (pc2 := 227) dX12_puts_225 rfl ?_
                        refine r_ifeq (tgt := 258) (pc2 := 230) dX12_puts_227 rfl (by decide) ⟨by omega, by omega⟩ (fun h9 => absurd h9 (by decide)) (fun _ => ?_)
                        refine r_iload2 (pc2 := 231) dX12_puts_230 rfl ?_
                        refine r_ifeq (tgt := 247) (pc2 := 234) dX12_puts_231 rfl (by decide) ⟨by omega, by omega⟩ (fun h9 => absurd h9 (by decide)) (fun _ => ?_)
                        refine r_iconst (pc2 := 235) dX12_puts_234 rfl ?_
                        refine r_aload0 (pc2 := 236) dX12_puts_235 rfl ?_
                        refine r_getR (pc2 := 239) dX12_puts_236 rfl fX12_74 (hK_317 hS) (hR_317_12 hS) ?_
                        refine r_iload1 (pc2 := 240) dX12_puts_239 rfl ?_
                        refine r_iconst (pc2 := 241) dX12_puts_240 rfl ?_
                        refine r_iadd (c := ((5 * i + 1 : Nat) : Int)) (pc2 := 242) dX12_puts_241 rfl (by omega) ?_
                        refine r_iald (z := z) (pc2 := 243) dX12_puts_242 rfl (hK_324 hS) (5 * i + 1) rfl (by omega) a2 ?_
                        refine r_isub (c := (1 - z)) (pc2 := 244) dX12_puts_243 rfl rfl ?_
                        refine r_goto (tgt := 259) dX12_puts_244 (by decide) ?_
                        refine r_iast (z := (1 - z)) (pc2 := 260) dX12_puts_259 rfl (hK_330 hS) (by decide) q rfl (by omega) ?_
                        refine r_aload0 (pc2 := 261) dX12_puts_260 rfl ?_
                        refine r_dup (pc2 := 262) dX12_puts_261 rfl rfl ?_
                        refine r_getI (z := ((s.2.2.2.1 : Nat) : Int)) (pc2 := 265) dX12_puts_262 rfl (Or.inl fX12_266) (hK_317 hS) hQ.2.2.2 ?_
                        refine r_iconst (pc2 := 266) dX12_puts_265 rfl ?_
                        refine r_iadd (c := ((s.2.2.2.1 + 1 : Nat) : Int)) (pc2 := 267) dX12_puts_266 rfl (by omega) ?_
                        refine r_putI (z := ((s.2.2.2.1 + 1 : Nat) : Int)) (pc2 := 270) dX12_puts_267 rfl fX12_266 (w12_26 _) (hK_317 hS) (by decide) ?_
                        refine r_ret dX12_puts_270 rfl ?_
                        exact absurd b_134 (by decide)
                      · refine r_iconst (pc2 := 189) dX12_puts_188 rfl ?_
                        refine r_goto (tgt := 194) dX12_puts_189 (by decide) ?_
                        refine r_iast (z := 1) (pc2 := 195) dX12_puts_194 rfl (hK_328 hS) (by decide) q rfl (by omega) ?_
                        refine r_aload0 (pc2 := 196) dX12_puts_195 rfl ?_
                        refine r_getR (pc2 := 199) dX12_puts_196 rfl fX12_89 (hK_317 hS) (hR_317_18 hS) ?_
                        refine r_iload8 (pc2 := 201) dX12_puts_199 rfl ?_
                        refine r_iload9 (pc2 := 203) dX12_puts_201 rfl ?_
                        refine r_ifeq (tgt := 210) (pc2 := 206) dX12_puts_203 rfl (by decide) ⟨by omega, by omega⟩ (fun h9 => absurd h9 (by decide)) (fun _ => ?_)
                        refine r_iconst (pc2 := 207) dX12_puts_206 rfl ?_
                        refine r_goto (tgt := 218) dX12_puts_207 (by decide) ?_
                        refine r_iast (z := 0) (pc2 := 219) dX12_puts_218 rfl (hK_329 hS) (by decide) q rfl (by omega) ?_
                        refine r_aload0 (pc2 := 220) dX12_puts_219 rfl ?_
                        refine r_getR (pc2 := 223) dX12_puts_220 rfl fX12_92 (hK_317 hS) (hR_317_19 hS) ?_
                        refine r_iload8 (pc2 := 225) dX12_puts_223 rfl ?_
                        refine r_iload9 (pc2 := 227) dX12_puts_225 rfl ?_
                        refine r_ifeq (tgt := 258) (pc2 := 230) dX12_puts_227 rfl (by decide) ⟨by omega, by omega⟩ (fun h9 => absurd h9 (by decide)) (fun _ => ?_)
                        refine r_iload2 (pc2 := 231) dX12_puts_230 rfl ?_
                        refine r_ifeq (tgt := 247) (pc2 := 234) dX12_puts_231 rfl (by decide) ⟨by omega, by omega⟩ (fun h9 => absurd h9 (by decide)) (fun _ => ?_)
                        refine r_iconst (pc2 := 235) dX12_puts_234 rfl ?_
                        refine r_aload0 (pc2 := 236) dX12_puts_235 rfl ?_
                        refine r_getR (pc2 := 239) dX12_puts_236 rfl fX12_74 (hK_317 hS) (hR_317_12 hS) ?_
                        refine r_iload1 (pc2 := 240) dX12_puts_239 rfl ?_
                        refine r_iconst (pc2 := 241) dX12_puts_240 rfl ?_
                        refine r_iadd (c := ((5 * i + 1 : Nat) : Int)) (pc2 := 242) dX12_puts_241 rfl (by omega) ?_
                        refine r_iald (z := z) (pc2 := 243) dX12_puts_242 rfl (hK_324 hS) (5 * i + 1) rfl (by omega) a2 ?_
                        refine r_isub (c := (1 - z)) (pc2 := 244) dX12_puts_243 rfl rfl ?_
                        refine r_goto (tgt := 259) dX12_puts_244 (by decide) ?_
                        refine r_iast (z := (1 - z)) (pc2 := 260) dX12_puts_259 rfl (hK_330 hS) (by decide) q rfl (by omega) ?_
                        refine r_aload0 (pc2 := 261) dX12_puts_260 rfl ?_
                        refine r_dup (pc2 := 262) dX12_puts_261 rfl rfl ?_
                        refine r_getI (z := ((s.2.2.2.1 : Nat) : Int)) (pc2 := 265) dX12_puts_262 rfl (Or.inl fX12_266) (hK_317 hS) hQ.2.2.2 ?_
                        refine r_iconst (pc2 := 266) dX12_puts_265 rfl ?_
                        refine r_iadd (c := ((s.2.2.2.1 + 1 : Nat) : Int)) (pc2 := 267) dX12_puts_266 rfl (by omega) ?_
                        refine r_putI (z := ((s.2.2.2.1 + 1 : Nat) : Int)) (pc2 := 270) dX12_puts_267 rfl fX12_266 (w12_26 _) (hK_317 hS) (by decide) ?_
                        refine r_ret dX12_puts_270 rfl ?_
                        exact absurd b_134 (by decide)
                    · refine r_iconst (pc2 := 175) dX12_puts_174 rfl ?_
                      refine r_goto (tgt := 194) dX12_puts_175 (by decide) ?_
                      refine r_iast (z := 2) (pc2 := 195) dX12_puts_194 rfl (hK_328 hS) (by decide) q rfl (by omega) ?_
                      refine r_aload0 (pc2 := 196) dX12_puts_195 rfl ?_
                      refine r_getR (pc2 := 199) dX12_puts_196 rfl fX12_89 (hK_317 hS) (hR_317_18 hS) ?_
                      refine r_iload8 (pc2 := 201) dX12_puts_199 rfl ?_
                      refine r_iload9 (pc2 := 203) dX12_puts_201 rfl ?_
                      refine r_ifeq (tgt := 210) (pc2 := 206) dX12_puts_203 rfl (by decide) ⟨by omega, by omega⟩ (fun h9 => absurd h9 (by decide)) (fun _ => ?_)
                      refine r_iconst (pc2 := 207) dX12_puts_206 rfl ?_
                      refine r_goto (tgt := 218) dX12_puts_207 (by decide) ?_
                      refine r_iast (z := 0) (pc2 := 219) dX12_puts_218 rfl (hK_329 hS) (by decide) q rfl (by omega) ?_
                      refine r_aload0 (pc2 := 220) dX12_puts_219 rfl ?_
                      refine r_getR (pc2 := 223) dX12_puts_220 rfl fX12_92 (hK_317 hS) (hR_317_19 hS) ?_
                      refine r_iload8 (pc2 := 225) dX12_puts_223 rfl ?_
                      refine r_iload9 (pc2 := 227) dX12_puts_225 rfl ?_
                      refine r_ifeq (tgt := 258) (pc2 := 230) dX12_puts_227 rfl (by decide) ⟨by omega, by omega⟩ (fun h9 => absurd h9 (by decide)) (fun _ => ?_)
                      refine r_iload2 (pc2 := 231) dX12_puts_230 rfl ?_
                      refine r_ifeq (tgt := 247) (pc2 := 234) dX12_puts_231 rfl (by decide) ⟨by omega, by omega⟩ (fun h9 => absurd h9 (by decide)) (fun _ => ?_)
                      refine r_iconst (pc2 := 235) dX12_puts_234 rfl ?_
                      refine r_aload0 (pc2 := 236) dX12_puts_235 rfl ?_
                      refine r_getR (pc2 := 239) dX12_puts_236 rfl fX12_74 (hK_317 hS) (hR_317_12 hS) ?_
                      refine r_iload1 (pc2 := 240) dX12_puts_239 rfl ?_
                      refine r_iconst (pc2 := 241) dX12_puts_240 rfl ?_
                      refine r_iadd (c := ((5 * i + 1 : Nat) : Int)) (pc2 := 242) dX12_puts_241 rfl (by omega) ?_
                      refine r_iald (z := z) (pc2 := 243) dX12_puts_242 rfl (hK_324 hS) (5 * i + 1) rfl (by omega) a2 ?_
                      refine r_isub (c := (1 - z)) (pc2 := 244) dX12_puts_243 rfl rfl ?_
                      refine r_goto (tgt := 259) dX12_puts_244 (by decide) ?_
                      refine r_iast (z := (1 - z)) (pc2 := 260) dX12_puts_259 rfl (hK_330 hS) (by decide) q rfl (by omega) ?_
                      refine r_aload0 (pc2 := 261) dX12_puts_260 rfl ?_
                      refine r_dup (pc2 := 262) dX12_puts_261 rfl rfl ?_
                      refine r_getI (z := ((s.2.2.2.1 : Nat) : Int)) (pc2 := 265) dX12_puts_262 rfl (Or.inl fX12_266) (hK_317 hS) hQ.2.2.2 ?_
                      refine r_iconst (pc2 := 266) dX12_puts_265 rfl ?_
                      refine r_iadd (c := ((s.2.2.2.1 + 1 : Nat) : Int)) (pc2 := 267) dX12_puts_266 rfl (by omega) ?_
                      refine r_putI (z := ((s.2.2.2.1 + 1 : Nat) : Int)) (pc2 := 270) dX12_puts_267 rfl fX12_266 (w12_26 _) (hK_317 hS) (by decide) ?_
                      refine r_ret dX12_puts_270 rfl ?_
                      exact absurd b_134 (by decide)
                  · refine r_iload5 (pc2 := 146) dX12_puts_144 rfl ?_
                    refine r_bipush (pc2 := 148) dX12_puts_146 rfl (by decide) (by decide) ?_
                    refine r_icne (tgt := 155) (pc2 := 151) dX12_puts_148 rfl (by decide) ⟨by omega, by omega⟩ ⟨by omega, by omega⟩ (fun b_148 => ?_) (fun b_148 => ?_)
                    · refine r_iconst (pc2 := 156) dX12_puts_155 rfl ?_
                      refine r_istore9 (pc2 := 158) dX12_puts_156 rfl rfl ?_
                      refine r_aload0 (pc2 := 159) dX12_puts_158 rfl ?_
                      refine r_getR (pc2 := 162) dX12_puts_159 rfl fX12_86 (hK_317 hS) (hR_317_17 hS) ?_
                      refine r_iload8 (pc2 := 164) dX12_puts_162 rfl ?_
                      refine r_iload2 (pc2 := 165) dX12_puts_164 rfl ?_
                      refine r_ifeq (tgt := 178) (pc2 := 168) dX12_puts_165 rfl (by decide) ⟨by omega, by omega⟩ (fun h9 => absurd h9 (by decide)) (fun _ => ?_)
                      refine r_iload5 (pc2 := 170) dX12_puts_168 rfl ?_
                      refine r_iconst (pc2 := 171) dX12_puts_170 rfl ?_
                      refine r_icne (tgt := 178) (pc2 := 174) dX12_puts_171 rfl (by decide) ⟨by omega, by omega⟩ ⟨by omega, by omega⟩ (fun b_171 => ?_) (fun b_171 => ?_)
                      · refine r_iload2 (pc2 := 179) dX12_puts_178 rfl ?_
                        refine r_ifeq (tgt := 192) (pc2 := 182) dX12_puts_179 rfl (by decide) ⟨by omega, by omega⟩ (fun h9 => absurd h9 (by decide)) (fun _ => ?_)
                        refine r_iload5 (pc2 := 184) dX12_puts_182 rfl ?_
                        refine r_iconst (pc2 := 185) dX12_puts_184 rfl ?_
                        refine r_icne (tgt := 192) (pc2 := 188) dX12_puts_185 rfl (by decide) ⟨by omega, by omega⟩ ⟨by omega, by omega⟩ (fun b_185 => ?_) (fun b_185 => ?_)
                        · refine r_iload5 (pc2 := 194) dX12_puts_192 rfl ?_
                          refine r_iast (z := k) (pc2 := 195) dX12_puts_194 rfl (hK_328 hS) (by decide) q rfl (by omega) ?_
                          refine r_aload0 (pc2 := 196) dX12_puts_195 rfl ?_
                          refine r_getR (pc2 := 199) dX12_puts_196 rfl fX12_89 (hK_317 hS) (hR_317_18 hS) ?_
                          refine r_iload8 (pc2 := 201) dX12_puts_199 rfl ?_
                          refine r_iload9 (pc2 := 203) dX12_puts_201 rfl ?_
                          refine r_ifeq (tgt := 210) (pc2 := 206) dX12_puts_203 rfl (by decide) ⟨by omega, by omega⟩ (fun _ => ?_) (fun h9 => absurd h9 (by decide))
                          refine r_aload0 (pc2 := 211) dX12_puts_210 rfl ?_
                          refine r_getR (pc2 := 214) dX12_puts_211 rfl fX12_74 (hK_317 hS) (hR_317_12 hS) ?_
                          refine r_iload1 (pc2 := 215) dX12_puts_214 rfl ?_
                          refine r_iconst (pc2 := 216) dX12_puts_215 rfl ?_
                          refine r_iadd (c := ((5 * i + 1 : Nat) : Int)) (pc2 := 217) dX12_puts_216 rfl (by omega) ?_
                          refine r_iald (z := z) (pc2 := 218) dX12_puts_217 rfl (hK_324 hS) (5 * i + 1) rfl (by omega) a2 ?_
                          refine r_iast (z := z) (pc2 := 219) dX12_puts_218 rfl (hK_329 hS) (by decide) q rfl (by omega) ?_
                          refine r_aload0 (pc2 := 220) dX12_puts_219 rfl ?_
                          refine r_getR (pc2 := 223) dX12_puts_220 rfl fX12_92 (hK_317 hS) (hR_317_19 hS) ?_
                          refine r_iload8 (pc2 := 225) dX12_puts_223 rfl ?_
                          refine r_iload9 (pc2 := 227) dX12_puts_225 rfl ?_
                          refine r_ifeq (tgt := 258) (pc2 := 230) dX12_puts_227 rfl (by decide) ⟨by omega, by omega⟩ (fun _ => ?_) (fun h9 => absurd h9 (by decide))
                          refine r_iconst (pc2 := 259) dX12_puts_258 rfl ?_
                          refine r_iast (z := 0) (pc2 := 260) dX12_puts_259 rfl (hK_330 hS) (by decide) q rfl (by omega) ?_
                          refine r_aload0 (pc2 := 261) dX12_puts_260 rfl ?_
                          refine r_dup (pc2 := 262) dX12_puts_261 rfl rfl ?_
                          refine r_getI (z := ((s.2.2.2.1 : Nat) : Int)) (pc2 := 265) dX12_puts_262 rfl (Or.inl fX12_266) (hK_317 hS) hQ.2.2.2 ?_
                          refine r_iconst (pc2 := 266) dX12_puts_265 rfl ?_
                          refine r_iadd (c := ((s.2.2.2.1 + 1 : Nat) : Int)) (pc2 := 267) dX12_puts_266 rfl (by omega) ?_
                          refine r_putI (z := ((s.2.2.2.1 + 1 : Nat) : Int)) (pc2 := 270) dX12_puts_267 rfl fX12_266 (w12_26 _) (hK_317 hS) (by decide) ?_
                          refine r_ret dX12_puts_270 rfl ?_
                          exact absurd b_134 (by decide)
                        · refine r_iconst (pc2 := 189) dX12_puts_188 rfl ?_
                          refine r_goto (tgt := 194) dX12_puts_189 (by decide) ?_
                          refine r_iast (z := 1) (pc2 := 195) dX12_puts_194 rfl (hK_328 hS) (by decide) q rfl (by omega) ?_
                          refine r_aload0 (pc2 := 196) dX12_puts_195 rfl ?_
                          refine r_getR (pc2 := 199) dX12_puts_196 rfl fX12_89 (hK_317 hS) (hR_317_18 hS) ?_
                          refine r_iload8 (pc2 := 201) dX12_puts_199 rfl ?_
                          refine r_iload9 (pc2 := 203) dX12_puts_201 rfl ?_
                          refine r_ifeq (tgt := 210) (pc2 := 206) dX12_puts_203 rfl (by decide) ⟨by omega, by omega⟩ (fun _ => ?_) (fun h9 => absurd h9 (by decide))
                          refine r_aload0 (pc2 := 211) dX12_puts_210 rfl ?_
                          refine r_getR (pc2 := 214) dX12_puts_211 rfl fX12_74 (hK_317 hS) (hR_317_12 hS) ?_
                          refine r_iload1 (pc2 := 215) dX12_puts_214 rfl ?_
                          refine r_iconst (pc2 := 216) dX12_puts_215 rfl ?_
                          refine r_iadd (c := ((5 * i + 1 : Nat) : Int)) (pc2 := 217) dX12_puts_216 rfl (by omega) ?_
                          refine r_iald (z := z) (pc2 := 218) dX12_puts_217 rfl (hK_324 hS) (5 * i + 1) rfl (by omega) a2 ?_
                          refine r_iast (z := z) (pc2 := 219) dX12_puts_218 rfl (hK_329 hS) (by decide) q rfl (by omega) ?_
                          refine r_aload0 (pc2 := 220) dX12_puts_219 rfl ?_
                          refine r_getR (pc2 := 223) dX12_puts_220 rfl fX12_92 (hK_317 hS) (hR_317_19 hS) ?_
                          refine r_iload8 (pc2 := 225) dX12_puts_223 rfl ?_
                          refine r_iload9 (pc2 := 227) dX12_puts_225 rfl ?_
                          refine r_ifeq (tgt := 258) (pc2 := 230) dX12_puts_227 rfl (by decide) ⟨by omega, by omega⟩ (fun _ => ?_) (fun h9 => absurd h9 (by decide))
                          refine r_iconst (pc2 := 259) dX12_puts_258 rfl ?_
                          refine r_iast (z := 0) (pc2 := 260) dX12_puts_259 rfl (hK_330 hS) (by decide) q rfl (by omega) ?_
                          refine r_aload0 (pc2 := 261) dX12_puts_260 rfl ?_
                          refine r_dup (pc2 := 262) dX12_puts_261 rfl rfl ?_
                          refine r_getI (z := ((s.2.2.2.1 : Nat) : Int)) (pc2 := 265) dX12_puts_262 rfl (Or.inl fX12_266) (hK_317 hS) hQ.2.2.2 ?_
                          refine r_iconst (pc2 := 266) dX12_puts_265 rfl ?_
                          refine r_iadd (c := ((s.2.2.2.1 + 1 : Nat) : Int)) (pc2 := 267) dX12_puts_266 rfl (by omega) ?_
                          refine r_putI (z := ((s.2.2.2.1 + 1 : Nat) : Int)) (pc2 := 270) dX12_puts_267 rfl fX12_266 (w12_26 _) (hK_317 hS) (by decide) ?_
                          refine r_ret dX12_puts_270 rfl ?_
                          exact absurd b_134 (by decide)
                      · refine r_iconst (pc2 := 175) dX12_puts_174 rfl ?_
                        refine r_goto (tgt := 194) dX12_puts_175 (by decide) ?_
                        refine r_iast (z := 2) (pc2 := 195) dX12_puts_194 rfl (hK_328 hS) (by decide) q rfl (by omega) ?_
                        refine r_aload0 (pc2 := 196) dX12_puts_195 rfl ?_
                        refine r_getR (pc2 := 199) dX12_puts_196 rfl fX12_89 (hK_317 hS) (hR_317_18 hS) ?_
                        refine r_iload8 (pc2 := 201) dX12_puts_199 rfl ?_
                        refine r_iload9 (pc2 := 203) dX12_puts_201 rfl ?_
                        refine r_ifeq (tgt := 210) (pc2 := 206) dX12_puts_203 rfl (by decide) ⟨by omega, by omega⟩ (fun _ => ?_) (fun h9 => absurd h9 (by decide))
                        refine r_aload0 (pc2 := 211) dX12_puts_210 rfl ?_
                        refine r_getR (pc2 := 214) dX12_puts_211 rfl fX12_74 (hK_317 hS) (hR_317_12 hS) ?_
                        refine r_iload1 (pc2 := 215) dX12_puts_214 rfl ?_
                        refine r_iconst (pc2 := 216) dX12_puts_215 rfl ?_
                        refine r_iadd (c := ((5 * i + 1 : Nat) : Int)) (pc2 := 217) dX12_puts_216 rfl (by omega) ?_
                        refine r_iald (z := z) (pc2 := 218) dX12_puts_217 rfl (hK_324 hS) (5 * i + 1) rfl (by omega) a2 ?_
                        refine r_iast (z := z) (pc2 := 219) dX12_puts_218 rfl (hK_329 hS) (by decide) q rfl (by omega) ?_
                        refine r_aload0 (pc2 := 220) dX12_puts_219 rfl ?_
                        refine r_getR (pc2 := 223) dX12_puts_220 rfl fX12_92 (hK_317 hS) (hR_317_19 hS) ?_
                        refine r_iload8 (pc2 := 225) dX12_puts_223 rfl ?_
                        refine r_iload9 (pc2 := 227) dX12_puts_225 rfl ?_
                        refine r_ifeq (tgt := 258) (pc2 := 230) dX12_puts_227 rfl (by decide) ⟨by omega, by omega⟩ (fun _ => ?_) (fun h9 => absurd h9 (by decide))
                        refine r_iconst (pc2 := 259) dX12_puts_258 rfl ?_
                        refine r_iast (z := 0) (pc2 := 260) dX12_puts_259 rfl (hK_330 hS) (by decide) q rfl (by omega) ?_
                        refine r_aload0 (pc2 := 261) dX12_puts_260 rfl ?_
                        refine r_dup (pc2 := 262) dX12_puts_261 rfl rfl ?_
                        refine r_getI (z := ((s.2.2.2.1 : Nat) : Int)) (pc2 := 265) dX12_puts_262 rfl (Or.inl fX12_266) (hK_317 hS) hQ.2.2.2 ?_
                        refine r_iconst (pc2 := 266) dX12_puts_265 rfl ?_
                        refine r_iadd (c := ((s.2.2.2.1 + 1 : Nat) : Int)) (pc2 := 267) dX12_puts_266 rfl (by omega) ?_
                        refine r_putI (z := ((s.2.2.2.1 + 1 : Nat) : Int)) (pc2 := 270) dX12_puts_267 rfl fX12_266 (w12_26 _) (hK_317 hS) (by decide) ?_
                        refine r_ret dX12_puts_270 rfl ?_
                        exact absurd b_134 (by decide)
                    · refine r_iconst (pc2 := 152) dX12_puts_151 rfl ?_
                      refine r_goto (tgt := 156) dX12_puts_152 (by decide) ?_
                      refine r_istore9 (pc2 := 158) dX12_puts_156 rfl rfl ?_
                      refine r_aload0 (pc2 := 159) dX12_puts_158 rfl ?_
                      refine r_getR (pc2 := 162) dX12_puts_159 rfl fX12_86 (hK_317 hS) (hR_317_17 hS) ?_
                      refine r_iload8 (pc2 := 164) dX12_puts_162 rfl ?_
                      refine r_iload2 (pc2 := 165) dX12_puts_164 rfl ?_
                      refine r_ifeq (tgt := 178) (pc2 := 168) dX12_puts_165 rfl (by decide) ⟨by omega, by omega⟩ (fun h9 => absurd h9 (by decide)) (fun _ => ?_)
                      refine r_iload5 (pc2 := 170) dX12_puts_168 rfl ?_
                      refine r_iconst (pc2 := 171) dX12_puts_170 rfl ?_
                      refine r_icne (tgt := 178) (pc2 := 174) dX12_puts_171 rfl (by decide) ⟨by omega, by omega⟩ ⟨by omega, by omega⟩ (fun b_171 => ?_) (fun b_171 => ?_)
                      · refine r_iload2 (pc2 := 179) dX12_puts_178 rfl ?_
                        refine r_ifeq (tgt := 192) (pc2 := 182) dX12_puts_179 rfl (by decide) ⟨by omega, by omega⟩ (fun h9 => absurd h9 (by decide)) (fun _ => ?_)
                        refine r_iload5 (pc2 := 184) dX12_puts_182 rfl ?_
                        refine r_iconst (pc2 := 185) dX12_puts_184 rfl ?_
                        refine r_icne (tgt := 192) (pc2 := 188) dX12_puts_185 rfl (by decide) ⟨by omega, by omega⟩ ⟨by omega, by omega⟩ (fun b_185 => ?_) (fun b_185 => ?_)
                        · refine r_iload5 (pc2 := 194) dX12_puts_192 rfl ?_
                          refine r_iast (z := k) (pc2 := 195) dX12_puts_194 rfl (hK_328 hS) (by decide) q rfl (by omega) ?_
                          refine r_aload0 (pc2 := 196) dX12_puts_195 rfl ?_
                          refine r_getR (pc2 := 199) dX12_puts_196 rfl fX12_89 (hK_317 hS) (hR_317_18 hS) ?_
                          refine r_iload8 (pc2 := 201) dX12_puts_199 rfl ?_
                          refine r_iload9 (pc2 := 203) dX12_puts_201 rfl ?_
                          refine r_ifeq (tgt := 210) (pc2 := 206) dX12_puts_203 rfl (by decide) ⟨by omega, by omega⟩ (fun h9 => absurd h9 (by decide)) (fun _ => ?_)
                          refine r_iconst (pc2 := 207) dX12_puts_206 rfl ?_
                          refine r_goto (tgt := 218) dX12_puts_207 (by decide) ?_
                          refine r_iast (z := 0) (pc2 := 219) dX12_puts_218 rfl (hK_329 hS) (by decide) q rfl (by omega) ?_
                          refine r_aload0 (pc2 := 220) dX12_puts_219 rfl ?_
                          refine r_getR (pc2 := 223) dX12_puts_220 rfl fX12_92 (hK_317 hS) (hR_317_19 hS) ?_
                          refine r_iload8 (pc2 := 225) dX12_puts_223 rfl ?_
                          refine r_iload9 (pc2 := 227) dX12_puts_225 rfl ?_
                          refine r_ifeq (tgt := 258) (pc2 := 230) dX12_puts_227 rfl (by decide) ⟨by omega, by omega⟩ (fun h9 => absurd h9 (by decide)) (fun _ => ?_)
                          refine r_iload2 (pc2 := 231) dX12_puts_230 rfl ?_
                          refine r_ifeq (tgt := 247) (pc2 := 234) dX12_puts_231 rfl (by decide) ⟨by omega, by omega⟩ (fun h9 => absurd h9 (by decide)) (fun _ => ?_)
                          refine r_iconst (pc2 := 235) dX12_puts_234 rfl ?_
                          refine r_aload0 (pc2 := 236) dX12_puts_235 rfl ?_
                          refine r_getR (pc2 := 239) dX12_puts_236 rfl fX12_74 (hK_317 hS) (hR_317_12 hS) ?_
                          refine r_iload1 (pc2 := 240) dX12_puts_239 rfl ?_
                          refine r_iconst (pc2 := 241) dX12_puts_240 rfl ?_
                          refine r_iadd (c := ((5 * i + 1 : Nat) : Int)) (pc2 := 242) dX12_puts_241 rfl (by omega) ?_
                          refine r_iald (z := z) (pc2 := 243) dX12_puts_242 rfl (hK_324 hS) (5 * i + 1) rfl (by omega) a2 ?_
                          refine r_isub (c := (1 - z)) (pc2 := 244) dX12_puts_243 rfl rfl ?_
                          refine r_goto (tgt := 259) dX12_puts_244 (by decide) ?_
                          refine r_iast (z := (1 - z)) (pc2 := 260) dX12_puts_259 rfl (hK_330 hS) (by decide) q rfl (by omega) ?_
                          refine r_aload0 (pc2 := 261) dX12_puts_260 rfl ?_
                          refine r_dup (pc2 := 262) dX12_puts_261 rfl rfl ?_
                          refine r_getI (z := ((s.2.2.2.1 : Nat) : Int)) (pc2 := 265) dX12_puts_262 rfl (Or.inl fX12_266) (hK_317 hS) hQ.2.2.2 ?_
                          refine r_iconst (pc2 := 266) dX12_puts_265 rfl ?_
                          refine r_iadd (c := ((s.2.2.2.1 + 1 : Nat) : Int)) (pc2 := 267) dX12_puts_266 rfl (by omega) ?_
                          refine r_putI (z := ((s.2.2.2.1 + 1 : Nat) : Int)) (pc2 := 270) dX12_puts_267 rfl fX12_266 (w12_26 _) (hK_317 hS) (by decide) ?_
                          refine r_ret dX12_puts_270 rfl ?_
                          exact absurd b_134 (by decide)
                        · refine r_iconst (pc2 := 189) dX12_puts_188 rfl ?_
                          refine r_goto (tgt := 194) dX12_puts_189 (by decide) ?_
                          refine r_iast (z := 1) (pc2 := 195) dX12_puts_194 rfl (hK_328 hS) (by decide) q rfl (by omega) ?_
                          refine r_aload0 (pc2 := 196) dX12_puts_195 rfl ?_
                          refine r_getR (pc2 := 199) dX12_puts_196 rfl fX12_89 (hK_317 hS) (hR_317_18 hS) ?_
                          refine r_iload8 (pc2 := 201) dX12_puts_199 rfl ?_
                          refine r_iload9 (pc2 := 203) dX12_puts_201 rfl ?_
                          refine r_ifeq (tgt := 210) (pc2 := 206) dX12_puts_203 rfl (by decide) ⟨by omega, by omega⟩ (fun h9 => absurd h9 (by decide)) (fun _ => ?_)
                          refine r_iconst (pc2 := 207) dX12_puts_206 rfl ?_
                          refine r_goto (tgt := 218) dX12_puts_207 (by decide) ?_
                          refine r_iast (z := 0) (pc2 := 219) dX12_puts_218 rfl (hK_329 hS) (by decide) q rfl (by omega) ?_
                          refine r_aload0 (pc2 := 220) dX12_puts_219 rfl ?_
                          refine r_getR (pc2 := 223) dX12_puts_220 rfl fX12_92 (hK_317 hS) (hR_317_19 hS) ?_
                          refine r_iload8 (pc2 := 225) dX12_puts_223 rfl ?_
                          refine r_iload9 (pc2 := 227) dX12_puts_225 rfl ?_
                          refine r_ifeq (tgt := 258) (pc2 := 230) dX12_puts_227 rfl (by decide) ⟨by omega, by omega⟩ (fun h9 => absurd h9 (by decide)) (fun _ => ?_)
                          refine r_iload2 (pc2 := 231) dX12_puts_230 rfl ?_
                          refine r_ifeq (tgt := 247) (pc2 := 234) dX12_puts_231 rfl (by decide) ⟨by omega, by omega⟩ (fun h9 => absurd h9 (by decide)) (fun _ => ?_)
                          refine r_iconst (pc2 := 235) dX12_puts_234 rfl ?_
                          refine r_aload0 (pc2 := 236) dX12_puts_235 rfl ?_
                          refine r_getR (pc2 := 239) dX12_puts_236 rfl fX12_74 (hK_317 hS) (hR_317_12 hS) ?_
                          refine r_iload1 (pc2 := 240) dX12_puts_239 rfl ?_
                          refine r_iconst (pc2 := 241) dX12_puts_240 rfl ?_
                          refine r_iadd (c := ((5 * i + 1 : Nat) : Int)) (pc2 := 242) dX12_puts_241 rfl (by omega) ?_
                          refine r_iald (z := z) (pc2 := 243) dX12_puts_242 rfl (hK_324 hS) (5 * i + 1) rfl (by omega) a2 ?_
                          refine r_isub (c := (1 - z)) (pc2 := 244) dX12_puts_243 rfl rfl ?_
                          refine r_goto (tgt := 259) dX12_puts_244 (by decide) ?_
                          refine r_iast (z := (1 - z)) (pc2 := 260) dX12_puts_259 rfl (hK_330 hS) (by decide) q rfl (by omega) ?_
                          refine r_aload0 (pc2 := 261) dX12_puts_260 rfl ?_
                          refine r_dup (pc2 := 262) dX12_puts_261 rfl rfl ?_
                          refine r_getI (z := ((s.2.2.2.1 : Nat) : Int)) (pc2 := 265) dX12_puts_262 rfl (Or.inl fX12_266) (hK_317 hS) hQ.2.2.2 ?_
                          refine r_iconst (pc2 := 266) dX12_puts_265 rfl ?_
                          refine r_iadd (c := ((s.2.2.2.1 + 1 : Nat) : Int)) (pc2 := 267) dX12_puts_266 rfl (by omega) ?_
                          refine r_putI (z := ((s.2.2.2.1 + 1 : Nat) : Int)) (pc2 := 270) dX12_puts_267 rfl fX12_266 (w12_26 _) (hK_317 hS) (by decide) ?_
                          refine r_ret dX12_puts_270 rfl ?_
                          exact absurd b_134 (by decide)
                      · refine r_iconst (pc2 := 175) dX12_puts_174 rfl ?_
                        refine r_goto (tgt := 194) dX12_puts_175 (by decide) ?_
                        refine r_iast (z := 2) (pc2 := 195) dX12_puts_194 rfl (hK_328 hS) (by decide) q rfl (by omega) ?_
                        refine r_aload0 (pc2 := 196) dX12_puts_195 rfl ?_
                        refine r_getR (pc2 := 199) dX12_puts_196 rfl fX12_89 (hK_317 hS) (hR_317_18 hS) ?_
                        refine r_iload8 (pc2 := 201) dX12_puts_199 rfl ?_
                        refine r_iload9 (pc2 := 203) dX12_puts_201 rfl ?_
                        refine r_ifeq (tgt := 210) (pc2 := 206) dX12_puts_203 rfl (by decide) ⟨by omega, by omega⟩ (fun h9 => absurd h9 (by decide)) (fun _ => ?_)
                        refine r_iconst (pc2 := 207) dX12_puts_206 rfl ?_
                        refine r_goto (tgt := 218) dX12_puts_207 (by decide) ?_
                        refine r_iast (z := 0) (pc2 := 219) dX12_puts_218 rfl (hK_329 hS) (by decide) q rfl (by omega) ?_
                        refine r_aload0 (pc2 := 220) dX12_puts_219 rfl ?_
                        refine r_getR (pc2 := 223) dX12_puts_220 rfl fX12_92 (hK_317 hS) (hR_317_19 hS) ?_
                        refine r_iload8 (pc2 := 225) dX12_puts_223 rfl ?_
                        refine r_iload9 (pc2 := 227) dX12_puts_225 rfl ?_
                        refine r_ifeq (tgt := 258) (pc2 := 230) dX12_puts_227 rfl (by decide) ⟨by omega, by omega⟩ (fun h9 => absurd h9 (by decide)) (fun _ => ?_)
                        refine r_iload2 (pc2 := 231) dX12_puts_230 rfl ?_
                        refine r_ifeq (tgt := 247) (pc2 := 234) dX12_puts_231 rfl (by decide) ⟨by omega, by omega⟩ (fun h9 => absurd h9 (by decide)) (fun _ => ?_)
                        refine r_iconst (pc2 := 235) dX12_puts_234 rfl ?_
                        refine r_aload0 (pc2 := 236) dX12_puts_235 rfl ?_
                        refine r_getR (pc2 := 239) dX12_puts_236 rfl fX12_74 (hK_317 hS) (hR_317_12 hS) ?_
                        refine r_iload1 (pc2 := 240) dX12_puts_239 rfl ?_
                        refine r_iconst (pc2 := 241) dX12_puts_240 rfl ?_
                        refine r_iadd (c := ((5 * i + 1 : Nat) : Int)) (pc2 := 242) dX12_puts_241 rfl (by omega) ?_
                        refine r_iald (z := z) (pc2 := 243) dX12_puts_242 rfl (hK_324 hS) (5 * i + 1) rfl (by omega) a2 ?_
                        refine r_isub (c := (1 - z)) (pc2 := 244) dX12_puts_243 rfl rfl ?_
                        refine r_goto (tgt := 259) dX12_puts_244 (by decide) ?_
                        refine r_iast (z := (1 - z)) (pc2 := 260) dX12_puts_259 rfl (hK_330 hS) (by decide) q rfl (by omega) ?_
                        refine r_aload0 (pc2 := 261) dX12_puts_260 rfl ?_
                        refine r_dup (pc2 := 262) dX12_puts_261 rfl rfl ?_
                        refine r_getI (z := ((s.2.2.2.1 : Nat) : Int)) (pc2 := 265) dX12_puts_262 rfl (Or.inl fX12_266) (hK_317 hS) hQ.2.2.2 ?_
                        refine r_iconst (pc2 := 266) dX12_puts_265 rfl ?_
                        refine r_iadd (c := ((s.2.2.2.1 + 1 : Nat) : Int)) (pc2 := 267) dX12_puts_266 rfl (by omega) ?_
                        refine r_putI (z := ((s.2.2.2.1 + 1 : Nat) : Int)) (pc2 := 270) dX12_puts_267 rfl fX12_266 (w12_26 _) (hK_317 hS) (by decide) ?_
                        refine r_ret dX12_puts_270 rfl ?_
                        exact absurd b_134 (by decide)
                · refine r_ret dX12_puts_137 rfl ?_
                  refine ⟨rfl, ?_, frQ.rf.I (by unfold okQ; omega)⟩
                  unfold qPut
                  rw [← hq, if_neg (show ¬ ¬ (0 ≤ X ∧ X < 13 ∧ 0 ≤ Y ∧ Y < 12) by omega), if_neg (show ¬ ¬ s.1.1.1 q = 0 by omega), if_pos (show (k = 4 ∨ k = 7 ∨ k = 9) ∧ mvc s.1.1.1 156 = 16 from ⟨hmv, by omega⟩)]
                  exact hQ.re
            · rintro _ M9 ⟨rfl, h9⟩
              rw [h9, if_neg hmv]
              show Go (Ct (d + 3)) _ yX12_puts cX12_puts none 0 0 109 [some (.ref 317), some (.int (iI ((5 * i : Nat) : Int))), some (.int (iI 1)), some (.int (iI dx)), some (.int (iI dy)), some (.int (iI k)), some (.int (iI X)), some (.int (iI Y)), some (.int (iI ((q : Nat) : Int))), none] [.int (iI 0), .ref 317] M
              refine r_ifeq (tgt := 126) (pc2 := 112) dX12_puts_109 rfl (by decide) ⟨by omega, by omega⟩ (fun _ => ?_) (fun h9 => absurd h9 (by decide))
              refine r_iconst (pc2 := 127) dX12_puts_126 rfl ?_
              refine r_putI (z := 0) (pc2 := 130) dX12_puts_127 rfl fX12_260 (w12_24 _) (hK_317 hS) (by decide) ?_
              refine r_aload0 (pc2 := 131) dX12_puts_130 rfl ?_
              refine r_getI (z := 0) (pc2 := 134) dX12_puts_131 rfl (Or.inl fX12_260) (hK_317 hS) rfl ?_
              refine r_ifle (tgt := 138) (pc2 := 137) dX12_puts_134 rfl (by decide) ⟨by omega, by omega⟩ (fun b_134 => ?_) (fun b_134 => ?_)
              · refine r_iload5 (pc2 := 140) dX12_puts_138 rfl ?_
                refine r_iconst (pc2 := 141) dX12_puts_140 rfl ?_
                refine r_iceq (tgt := 151) (pc2 := 144) dX12_puts_141 rfl (by decide) ⟨by omega, by omega⟩ ⟨by omega, by omega⟩ (fun b_141 => ?_) (fun b_141 => ?_)
                · refine r_iconst (pc2 := 152) dX12_puts_151 rfl ?_
                  refine r_goto (tgt := 156) dX12_puts_152 (by decide) ?_
                  refine r_istore9 (pc2 := 158) dX12_puts_156 rfl rfl ?_
                  refine r_aload0 (pc2 := 159) dX12_puts_158 rfl ?_
                  refine r_getR (pc2 := 162) dX12_puts_159 rfl fX12_86 (hK_317 hS) (hR_317_17 hS) ?_
                  refine r_iload8 (pc2 := 164) dX12_puts_162 rfl ?_
                  refine r_iload2 (pc2 := 165) dX12_puts_164 rfl ?_
                  refine r_ifeq (tgt := 178) (pc2 := 168) dX12_puts_165 rfl (by decide) ⟨by omega, by omega⟩ (fun h9 => absurd h9 (by decide)) (fun _ => ?_)
                  refine r_iload5 (pc2 := 170) dX12_puts_168 rfl ?_
                  refine r_iconst (pc2 := 171) dX12_puts_170 rfl ?_
                  refine r_icne (tgt := 178) (pc2 := 174) dX12_puts_171 rfl (by decide) ⟨by omega, by omega⟩ ⟨by omega, by omega⟩ (fun b_171 => ?_) (fun b_171 => ?_)
                  · refine r_iload2 (pc2 := 179) dX12_puts_178 rfl ?_
                    refine r_ifeq (tgt := 192) (pc2 := 182) dX12_puts_179 rfl (by decide) ⟨by omega, by omega⟩ (fun h9 => absurd h9 (by decide)) (fun _ => ?_)
                    refine r_iload5 (pc2 := 184) dX12_puts_182 rfl ?_
                    refine r_iconst (pc2 := 185) dX12_puts_184 rfl ?_
                    refine r_icne (tgt := 192) (pc2 := 188) dX12_puts_185 rfl (by decide) ⟨by omega, by omega⟩ ⟨by omega, by omega⟩ (fun b_185 => ?_) (fun b_185 => ?_)
                    · refine r_iload5 (pc2 := 194) dX12_puts_192 rfl ?_
                      refine r_iast (z := k) (pc2 := 195) dX12_puts_194 rfl (hK_328 hS) (by decide) q rfl (by omega) ?_
                      refine r_aload0 (pc2 := 196) dX12_puts_195 rfl ?_
                      refine r_getR (pc2 := 199) dX12_puts_196 rfl fX12_89 (hK_317 hS) (hR_317_18 hS) ?_
                      refine r_iload8 (pc2 := 201) dX12_puts_199 rfl ?_
                      refine r_iload9 (pc2 := 203) dX12_puts_201 rfl ?_
                      refine r_ifeq (tgt := 210) (pc2 := 206) dX12_puts_203 rfl (by decide) ⟨by omega, by omega⟩ (fun h9 => absurd h9 (by decide)) (fun _ => ?_)
                      refine r_iconst (pc2 := 207) dX12_puts_206 rfl ?_
                      refine r_goto (tgt := 218) dX12_puts_207 (by decide) ?_
                      refine r_iast (z := 0) (pc2 := 219) dX12_puts_218 rfl (hK_329 hS) (by decide) q rfl (by omega) ?_
                      refine r_aload0 (pc2 := 220) dX12_puts_219 rfl ?_
                      refine r_getR (pc2 := 223) dX12_puts_220 rfl fX12_92 (hK_317 hS) (hR_317_19 hS) ?_
                      refine r_iload8 (pc2 := 225) dX12_puts_223 rfl ?_
                      refine r_iload9 (pc2 := 227) dX12_puts_225 rfl ?_
                      refine r_ifeq (tgt := 258) (pc2 := 230) dX12_puts_227 rfl (by decide) ⟨by omega, by omega⟩ (fun h9 => absurd h9 (by decide)) (fun _ => ?_)
                      refine r_iload2 (pc2 := 231) dX12_puts_230 rfl ?_
                      refine r_ifeq (tgt := 247) (pc2 := 234) dX12_puts_231 rfl (by decide) ⟨by omega, by omega⟩ (fun h9 => absurd h9 (by decide)) (fun _ => ?_)
                      refine r_iconst (pc2 := 235) dX12_puts_234 rfl ?_
                      refine r_aload0 (pc2 := 236) dX12_puts_235 rfl ?_
                      refine r_getR (pc2 := 239) dX12_puts_236 rfl fX12_74 (hK_317 hS) (hR_317_12 hS) ?_
                      refine r_iload1 (pc2 := 240) dX12_puts_239 rfl ?_
                      refine r_iconst (pc2 := 241) dX12_puts_240 rfl ?_
                      refine r_iadd (c := ((5 * i + 1 : Nat) : Int)) (pc2 := 242) dX12_puts_241 rfl (by omega) ?_
                      refine r_iald (z := z) (pc2 := 243) dX12_puts_242 rfl (hK_324 hS) (5 * i + 1) rfl (by omega) a2 ?_
                      refine r_isub (c := (1 - z)) (pc2 := 244) dX12_puts_243 rfl rfl ?_
                      refine r_goto (tgt := 259) dX12_puts_244 (by decide) ?_
                      refine r_iast (z := (1 - z)) (pc2 := 260) dX12_puts_259 rfl (hK_330 hS) (by decide) q rfl (by omega) ?_
                      refine r_aload0 (pc2 := 261) dX12_puts_260 rfl ?_
                      refine r_dup (pc2 := 262) dX12_puts_261 rfl rfl ?_
                      refine r_getI (z := ((s.2.2.2.1 : Nat) : Int)) (pc2 := 265) dX12_puts_262 rfl (Or.inl fX12_266) (hK_317 hS) hQ.2.2.2 ?_
                      refine r_iconst (pc2 := 266) dX12_puts_265 rfl ?_
                      refine r_iadd (c := ((s.2.2.2.1 + 1 : Nat) : Int)) (pc2 := 267) dX12_puts_266 rfl (by omega) ?_
                      refine r_putI (z := ((s.2.2.2.1 + 1 : Nat) : Int)) (pc2 := 270) dX12_puts_267 rfl fX12_266 (w12_26 _) (hK_317 hS) (by decide) ?_
                      refine r_ret dX12_puts_270 rfl ?_
                      refine ⟨rfl, ?_, ((((frQ.rf.I (by unfold okQ; omega)).I (by unfold okQ; omega)).I (by unfold okQ; omega)).I (by unfold okQ; omega)).I (by unfold okQ; omega)⟩
                      rw [qPut_y (K := k) (Z := 0) (V := (1 - z)) hq ⟨by omega, by omega, by omega, by omega⟩ (by omega) (fun c => hmv c.1) (by unfold kMir; (repeat' split) <;> omega) (by split <;> omega) (by (repeat' split) <;> omega)]
                      exact hQ.set (by omega)
                    · refine r_iconst (pc2 := 189) dX12_puts_188 rfl ?_
                      refine r_goto (tgt := 194) dX12_puts_189 (by decide) ?_
                      refine r_iast (z := 1) (pc2 := 195) dX12_puts_194 rfl (hK_328 hS) (by decide) q rfl (by omega) ?_
                      refine r_aload0 (pc2 := 196) dX12_puts_195 rfl ?_
                      refine r_getR (pc2 := 199) dX12_puts_196 rfl fX12_89 (hK_317 hS) (hR_317_18 hS) ?_
                      refine r_iload8 (pc2 := 201) dX12_puts_199 rfl ?_
                      refine r_iload9 (pc2 := 203) dX12_puts_201 rfl ?_
                      refine r_ifeq (tgt := 210) (pc2 := 206) dX12_puts_203 rfl (by decide) ⟨by omega, by omega⟩ (fun h9 => absurd h9 (by decide)) (fun _ => ?_)
                      refine r_iconst (pc2 := 207) dX12_puts_206 rfl ?_
                      refine r_goto (tgt := 218) dX12_puts_207 (by decide) ?_
                      refine r_iast (z := 0) (pc2 := 219) dX12_puts_218 rfl (hK_329 hS) (by decide) q rfl (by omega) ?_
                      refine r_aload0 (pc2 := 220) dX12_puts_219 rfl ?_
                      refine r_getR (pc2 := 223) dX12_puts_220 rfl fX12_92 (hK_317 hS) (hR_317_19 hS) ?_
                      refine r_iload8 (pc2 := 225) dX12_puts_223 rfl ?_
                      refine r_iload9 (pc2 := 227) dX12_puts_225 rfl ?_
                      refine r_ifeq (tgt := 258) (pc2 := 230) dX12_puts_227 rfl (by decide) ⟨by omega, by omega⟩ (fun h9 => absurd h9 (by decide)) (fun _ => ?_)
                      refine r_iload2 (pc2 := 231) dX12_puts_230 rfl ?_
                      refine r_ifeq (tgt := 247) (pc2 := 234) dX12_puts_231 rfl (by decide) ⟨by omega, by omega⟩ (fun h9 => absurd h9 (by decide)) (fun _ => ?_)
                      refine r_iconst (pc2 := 235) dX12_puts_234 rfl ?_
                      refine r_aload0 (pc2 := 236) dX12_puts_235 rfl ?_
                      refine r_getR (pc2 := 239) dX12_puts_236 rfl fX12_74 (hK_317 hS) (hR_317_12 hS) ?_
                      refine r_iload1 (pc2 := 240) dX12_puts_239 rfl ?_
                      refine r_iconst (pc2 := 241) dX12_puts_240 rfl ?_
                      refine r_iadd (c := ((5 * i + 1 : Nat) : Int)) (pc2 := 242) dX12_puts_241 rfl (by omega) ?_
                      refine r_iald (z := z) (pc2 := 243) dX12_puts_242 rfl (hK_324 hS) (5 * i + 1) rfl (by omega) a2 ?_
                      refine r_isub (c := (1 - z)) (pc2 := 244) dX12_puts_243 rfl rfl ?_
                      refine r_goto (tgt := 259) dX12_puts_244 (by decide) ?_
                      refine r_iast (z := (1 - z)) (pc2 := 260) dX12_puts_259 rfl (hK_330 hS) (by decide) q rfl (by omega) ?_
                      refine r_aload0 (pc2 := 261) dX12_puts_260 rfl ?_
                      refine r_dup (pc2 := 262) dX12_puts_261 rfl rfl ?_
                      refine r_getI (z := ((s.2.2.2.1 : Nat) : Int)) (pc2 := 265) dX12_puts_262 rfl (Or.inl fX12_266) (hK_317 hS) hQ.2.2.2 ?_
                      refine r_iconst (pc2 := 266) dX12_puts_265 rfl ?_
                      refine r_iadd (c := ((s.2.2.2.1 + 1 : Nat) : Int)) (pc2 := 267) dX12_puts_266 rfl (by omega) ?_
                      refine r_putI (z := ((s.2.2.2.1 + 1 : Nat) : Int)) (pc2 := 270) dX12_puts_267 rfl fX12_266 (w12_26 _) (hK_317 hS) (by decide) ?_
                      refine r_ret dX12_puts_270 rfl ?_
                      refine ⟨rfl, ?_, ((((frQ.rf.I (by unfold okQ; omega)).I (by unfold okQ; omega)).I (by unfold okQ; omega)).I (by unfold okQ; omega)).I (by unfold okQ; omega)⟩
                      rw [qPut_y (K := 1) (Z := 0) (V := (1 - z)) hq ⟨by omega, by omega, by omega, by omega⟩ (by omega) (fun c => hmv c.1) (by unfold kMir; (repeat' split) <;> omega) (by split <;> omega) (by (repeat' split) <;> omega)]
                      exact hQ.set (by omega)
                  · refine r_iconst (pc2 := 175) dX12_puts_174 rfl ?_
                    refine r_goto (tgt := 194) dX12_puts_175 (by decide) ?_
                    refine r_iast (z := 2) (pc2 := 195) dX12_puts_194 rfl (hK_328 hS) (by decide) q rfl (by omega) ?_
                    refine r_aload0 (pc2 := 196) dX12_puts_195 rfl ?_
                    refine r_getR (pc2 := 199) dX12_puts_196 rfl fX12_89 (hK_317 hS) (hR_317_18 hS) ?_
                    refine r_iload8 (pc2 := 201) dX12_puts_199 rfl ?_
                    refine r_iload9 (pc2 := 203) dX12_puts_201 rfl ?_
                    refine r_ifeq (tgt := 210) (pc2 := 206) dX12_puts_203 rfl (by decide) ⟨by omega, by omega⟩ (fun h9 => absurd h9 (by decide)) (fun _ => ?_)
                    refine r_iconst (pc2 := 207) dX12_puts_206 rfl ?_
                    refine r_goto (tgt := 218) dX12_puts_207 (by decide) ?_
                    refine r_iast (z := 0) (pc2 := 219) dX12_puts_218 rfl (hK_329 hS) (by decide) q rfl (by omega) ?_
                    refine r_aload0 (pc2 := 220) dX12_puts_219 rfl ?_
                    refine r_getR (pc2 := 223) dX12_puts_220 rfl fX12_92 (hK_317 hS) (hR_317_19 hS) ?_
                    refine r_iload8 (pc2 := 225) dX12_puts_223 rfl ?_
                    refine r_iload9 (pc2 := 227) dX12_puts_225 rfl ?_
                    refine r_ifeq (tgt := 258) (pc2 := 230) dX12_puts_227 rfl (by decide) ⟨by omega, by omega⟩ (fun h9 => absurd h9 (by decide)) (fun _ => ?_)
                    refine r_iload2 (pc2 := 231) dX12_puts_230 rfl ?_
                    refine r_ifeq (tgt := 247) (pc2 := 234) dX12_puts_231 rfl (by decide) ⟨by omega, by omega⟩ (fun h9 => absurd h9 (by decide)) (fun _ => ?_)
                    refine r_iconst (pc2 := 235) dX12_puts_234 rfl ?_
                    refine r_aload0 (pc2 := 236) dX12_puts_235 rfl ?_
                    refine r_getR (pc2 := 239) dX12_puts_236 rfl fX12_74 (hK_317 hS) (hR_317_12 hS) ?_
                    refine r_iload1 (pc2 := 240) dX12_puts_239 rfl ?_
                    refine r_iconst (pc2 := 241) dX12_puts_240 rfl ?_
                    refine r_iadd (c := ((5 * i + 1 : Nat) : Int)) (pc2 := 242) dX12_puts_241 rfl (by omega) ?_
                    refine r_iald (z := z) (pc2 := 243) dX12_puts_242 rfl (hK_324 hS) (5 * i + 1) rfl (by omega) a2 ?_
                    refine r_isub (c := (1 - z)) (pc2 := 244) dX12_puts_243 rfl rfl ?_
                    refine r_goto (tgt := 259) dX12_puts_244 (by decide) ?_
                    refine r_iast (z := (1 - z)) (pc2 := 260) dX12_puts_259 rfl (hK_330 hS) (by decide) q rfl (by omega) ?_
                    refine r_aload0 (pc2 := 261) dX12_puts_260 rfl ?_
                    refine r_dup (pc2 := 262) dX12_puts_261 rfl rfl ?_
                    refine r_getI (z := ((s.2.2.2.1 : Nat) : Int)) (pc2 := 265) dX12_puts_262 rfl (Or.inl fX12_266) (hK_317 hS) hQ.2.2.2 ?_
                    refine r_iconst (pc2 := 266) dX12_puts_265 rfl ?_
                    refine r_iadd (c := ((s.2.2.2.1 + 1 : Nat) : Int)) (pc2 := 267) dX12_puts_266 rfl (by omega) ?_
                    refine r_putI (z := ((s.2.2.2.1 + 1 : Nat) : Int)) (pc2 := 270) dX12_puts_267 rfl fX12_266 (w12_26 _) (hK_317 hS) (by decide) ?_
                    refine r_ret dX12_puts_270 rfl ?_
                    refine ⟨rfl, ?_, ((((frQ.rf.I (by unfold okQ; omega)).I (by unfold okQ; omega)).I (by unfold okQ; omega)).I (by unfold okQ; omega)).I (by unfold okQ; omega)⟩
                    rw [qPut_y (K := 2) (Z := 0) (V := (1 - z)) hq ⟨by omega, by omega, by omega, by omega⟩ (by omega) (fun c => hmv c.1) (by unfold kMir; (repeat' split) <;> omega) (by split <;> omega) (by (repeat' split) <;> omega)]
                    exact hQ.set (by omega)
                · refine r_iload5 (pc2 := 146) dX12_puts_144 rfl ?_
                  refine r_bipush (pc2 := 148) dX12_puts_146 rfl (by decide) (by decide) ?_
                  refine r_icne (tgt := 155) (pc2 := 151) dX12_puts_148 rfl (by decide) ⟨by omega, by omega⟩ ⟨by omega, by omega⟩ (fun b_148 => ?_) (fun b_148 => ?_)
                  · refine r_iconst (pc2 := 156) dX12_puts_155 rfl ?_
                    refine r_istore9 (pc2 := 158) dX12_puts_156 rfl rfl ?_
                    refine r_aload0 (pc2 := 159) dX12_puts_158 rfl ?_
                    refine r_getR (pc2 := 162) dX12_puts_159 rfl fX12_86 (hK_317 hS) (hR_317_17 hS) ?_
                    refine r_iload8 (pc2 := 164) dX12_puts_162 rfl ?_
                    refine r_iload2 (pc2 := 165) dX12_puts_164 rfl ?_
                    refine r_ifeq (tgt := 178) (pc2 := 168) dX12_puts_165 rfl (by decide) ⟨by omega, by omega⟩ (fun h9 => absurd h9 (by decide)) (fun _ => ?_)
                    refine r_iload5 (pc2 := 170) dX12_puts_168 rfl ?_
                    refine r_iconst (pc2 := 171) dX12_puts_170 rfl ?_
                    refine r_icne (tgt := 178) (pc2 := 174) dX12_puts_171 rfl (by decide) ⟨by omega, by omega⟩ ⟨by omega, by omega⟩ (fun b_171 => ?_) (fun b_171 => ?_)
                    · refine r_iload2 (pc2 := 179) dX12_puts_178 rfl ?_
                      refine r_ifeq (tgt := 192) (pc2 := 182) dX12_puts_179 rfl (by decide) ⟨by omega, by omega⟩ (fun h9 => absurd h9 (by decide)) (fun _ => ?_)
                      refine r_iload5 (pc2 := 184) dX12_puts_182 rfl ?_
                      refine r_iconst (pc2 := 185) dX12_puts_184 rfl ?_
                      refine r_icne (tgt := 192) (pc2 := 188) dX12_puts_185 rfl (by decide) ⟨by omega, by omega⟩ ⟨by omega, by omega⟩ (fun b_185 => ?_) (fun b_185 => ?_)
                      · refine r_iload5 (pc2 := 194) dX12_puts_192 rfl ?_
                        refine r_iast (z := k) (pc2 := 195) dX12_puts_194 rfl (hK_328 hS) (by decide) q rfl (by omega) ?_
                        refine r_aload0 (pc2 := 196) dX12_puts_195 rfl ?_
                        refine r_getR (pc2 := 199) dX12_puts_196 rfl fX12_89 (hK_317 hS) (hR_317_18 hS) ?_
                        refine r_iload8 (pc2 := 201) dX12_puts_199 rfl ?_
                        refine r_iload9 (pc2 := 203) dX12_puts_201 rfl ?_
                        refine r_ifeq (tgt := 210) (pc2 := 206) dX12_puts_203 rfl (by decide) ⟨by omega, by omega⟩ (fun _ => ?_) (fun h9 => absurd h9 (by decide))
                        refine r_aload0 (pc2 := 211) dX12_puts_210 rfl ?_
                        refine r_getR (pc2 := 214) dX12_puts_211 rfl fX12_74 (hK_317 hS) (hR_317_12 hS) ?_
                        refine r_iload1 (pc2 := 215) dX12_puts_214 rfl ?_
                        refine r_iconst (pc2 := 216) dX12_puts_215 rfl ?_
                        refine r_iadd (c := ((5 * i + 1 : Nat) : Int)) (pc2 := 217) dX12_puts_216 rfl (by omega) ?_
                        refine r_iald (z := z) (pc2 := 218) dX12_puts_217 rfl (hK_324 hS) (5 * i + 1) rfl (by omega) a2 ?_
                        refine r_iast (z := z) (pc2 := 219) dX12_puts_218 rfl (hK_329 hS) (by decide) q rfl (by omega) ?_
                        refine r_aload0 (pc2 := 220) dX12_puts_219 rfl ?_
                        refine r_getR (pc2 := 223) dX12_puts_220 rfl fX12_92 (hK_317 hS) (hR_317_19 hS) ?_
                        refine r_iload8 (pc2 := 225) dX12_puts_223 rfl ?_
                        refine r_iload9 (pc2 := 227) dX12_puts_225 rfl ?_
                        refine r_ifeq (tgt := 258) (pc2 := 230) dX12_puts_227 rfl (by decide) ⟨by omega, by omega⟩ (fun _ => ?_) (fun h9 => absurd h9 (by decide))
                        refine r_iconst (pc2 := 259) dX12_puts_258 rfl ?_
                        refine r_iast (z := 0) (pc2 := 260) dX12_puts_259 rfl (hK_330 hS) (by decide) q rfl (by omega) ?_
                        refine r_aload0 (pc2 := 261) dX12_puts_260 rfl ?_
                        refine r_dup (pc2 := 262) dX12_puts_261 rfl rfl ?_
                        refine r_getI (z := ((s.2.2.2.1 : Nat) : Int)) (pc2 := 265) dX12_puts_262 rfl (Or.inl fX12_266) (hK_317 hS) hQ.2.2.2 ?_
                        refine r_iconst (pc2 := 266) dX12_puts_265 rfl ?_
                        refine r_iadd (c := ((s.2.2.2.1 + 1 : Nat) : Int)) (pc2 := 267) dX12_puts_266 rfl (by omega) ?_
                        refine r_putI (z := ((s.2.2.2.1 + 1 : Nat) : Int)) (pc2 := 270) dX12_puts_267 rfl fX12_266 (w12_26 _) (hK_317 hS) (by decide) ?_
                        refine r_ret dX12_puts_270 rfl ?_
                        refine ⟨rfl, ?_, ((((frQ.rf.I (by unfold okQ; omega)).I (by unfold okQ; omega)).I (by unfold okQ; omega)).I (by unfold okQ; omega)).I (by unfold okQ; omega)⟩
                        rw [qPut_y (K := k) (Z := z) (V := 0) hq ⟨by omega, by omega, by omega, by omega⟩ (by omega) (fun c => hmv c.1) (by unfold kMir; (repeat' split) <;> omega) (by split <;> omega) (by (repeat' split) <;> omega)]
                        exact hQ.set (by omega)
                      · refine r_iconst (pc2 := 189) dX12_puts_188 rfl ?_
                        refine r_goto (tgt := 194) dX12_puts_189 (by decide) ?_
                        refine r_iast (z := 1) (pc2 := 195) dX12_puts_194 rfl (hK_328 hS) (by decide) q rfl (by omega) ?_
                        refine r_aload0 (pc2 := 196) dX12_puts_195 rfl ?_
                        refine r_getR (pc2 := 199) dX12_puts_196 rfl fX12_89 (hK_317 hS) (hR_317_18 hS) ?_
                        refine r_iload8 (pc2 := 201) dX12_puts_199 rfl ?_
                        refine r_iload9 (pc2 := 203) dX12_puts_201 rfl ?_
                        refine r_ifeq (tgt := 210) (pc2 := 206) dX12_puts_203 rfl (by decide) ⟨by omega, by omega⟩ (fun _ => ?_) (fun h9 => absurd h9 (by decide))
                        refine r_aload0 (pc2 := 211) dX12_puts_210 rfl ?_
                        refine r_getR (pc2 := 214) dX12_puts_211 rfl fX12_74 (hK_317 hS) (hR_317_12 hS) ?_
                        refine r_iload1 (pc2 := 215) dX12_puts_214 rfl ?_
                        refine r_iconst (pc2 := 216) dX12_puts_215 rfl ?_
                        refine r_iadd (c := ((5 * i + 1 : Nat) : Int)) (pc2 := 217) dX12_puts_216 rfl (by omega) ?_
                        refine r_iald (z := z) (pc2 := 218) dX12_puts_217 rfl (hK_324 hS) (5 * i + 1) rfl (by omega) a2 ?_
                        refine r_iast (z := z) (pc2 := 219) dX12_puts_218 rfl (hK_329 hS) (by decide) q rfl (by omega) ?_
                        refine r_aload0 (pc2 := 220) dX12_puts_219 rfl ?_
                        refine r_getR (pc2 := 223) dX12_puts_220 rfl fX12_92 (hK_317 hS) (hR_317_19 hS) ?_
                        refine r_iload8 (pc2 := 225) dX12_puts_223 rfl ?_
                        refine r_iload9 (pc2 := 227) dX12_puts_225 rfl ?_
                        refine r_ifeq (tgt := 258) (pc2 := 230) dX12_puts_227 rfl (by decide) ⟨by omega, by omega⟩ (fun _ => ?_) (fun h9 => absurd h9 (by decide))
                        refine r_iconst (pc2 := 259) dX12_puts_258 rfl ?_
                        refine r_iast (z := 0) (pc2 := 260) dX12_puts_259 rfl (hK_330 hS) (by decide) q rfl (by omega) ?_
                        refine r_aload0 (pc2 := 261) dX12_puts_260 rfl ?_
                        refine r_dup (pc2 := 262) dX12_puts_261 rfl rfl ?_
                        refine r_getI (z := ((s.2.2.2.1 : Nat) : Int)) (pc2 := 265) dX12_puts_262 rfl (Or.inl fX12_266) (hK_317 hS) hQ.2.2.2 ?_
                        refine r_iconst (pc2 := 266) dX12_puts_265 rfl ?_
                        refine r_iadd (c := ((s.2.2.2.1 + 1 : Nat) : Int)) (pc2 := 267) dX12_puts_266 rfl (by omega) ?_
                        refine r_putI (z := ((s.2.2.2.1 + 1 : Nat) : Int)) (pc2 := 270) dX12_puts_267 rfl fX12_266 (w12_26 _) (hK_317 hS) (by decide) ?_
                        refine r_ret dX12_puts_270 rfl ?_
                        refine ⟨rfl, ?_, ((((frQ.rf.I (by unfold okQ; omega)).I (by unfold okQ; omega)).I (by unfold okQ; omega)).I (by unfold okQ; omega)).I (by unfold okQ; omega)⟩
                        rw [qPut_y (K := 1) (Z := z) (V := 0) hq ⟨by omega, by omega, by omega, by omega⟩ (by omega) (fun c => hmv c.1) (by unfold kMir; (repeat' split) <;> omega) (by split <;> omega) (by (repeat' split) <;> omega)]
                        exact hQ.set (by omega)
                    · refine r_iconst (pc2 := 175) dX12_puts_174 rfl ?_
                      refine r_goto (tgt := 194) dX12_puts_175 (by decide) ?_
                      refine r_iast (z := 2) (pc2 := 195) dX12_puts_194 rfl (hK_328 hS) (by decide) q rfl (by omega) ?_
                      refine r_aload0 (pc2 := 196) dX12_puts_195 rfl ?_
                      refine r_getR (pc2 := 199) dX12_puts_196 rfl fX12_89 (hK_317 hS) (hR_317_18 hS) ?_
                      refine r_iload8 (pc2 := 201) dX12_puts_199 rfl ?_
                      refine r_iload9 (pc2 := 203) dX12_puts_201 rfl ?_
                      refine r_ifeq (tgt := 210) (pc2 := 206) dX12_puts_203 rfl (by decide) ⟨by omega, by omega⟩ (fun _ => ?_) (fun h9 => absurd h9 (by decide))
                      refine r_aload0 (pc2 := 211) dX12_puts_210 rfl ?_
                      refine r_getR (pc2 := 214) dX12_puts_211 rfl fX12_74 (hK_317 hS) (hR_317_12 hS) ?_
                      refine r_iload1 (pc2 := 215) dX12_puts_214 rfl ?_
                      refine r_iconst (pc2 := 216) dX12_puts_215 rfl ?_
                      refine r_iadd (c := ((5 * i + 1 : Nat) : Int)) (pc2 := 217) dX12_puts_216 rfl (by omega) ?_
                      refine r_iald (z := z) (pc2 := 218) dX12_puts_217 rfl (hK_324 hS) (5 * i + 1) rfl (by omega) a2 ?_
                      refine r_iast (z := z) (pc2 := 219) dX12_puts_218 rfl (hK_329 hS) (by decide) q rfl (by omega) ?_
                      refine r_aload0 (pc2 := 220) dX12_puts_219 rfl ?_
                      refine r_getR (pc2 := 223) dX12_puts_220 rfl fX12_92 (hK_317 hS) (hR_317_19 hS) ?_
                      refine r_iload8 (pc2 := 225) dX12_puts_223 rfl ?_
                      refine r_iload9 (pc2 := 227) dX12_puts_225 rfl ?_
                      refine r_ifeq (tgt := 258) (pc2 := 230) dX12_puts_227 rfl (by decide) ⟨by omega, by omega⟩ (fun _ => ?_) (fun h9 => absurd h9 (by decide))
                      refine r_iconst (pc2 := 259) dX12_puts_258 rfl ?_
                      refine r_iast (z := 0) (pc2 := 260) dX12_puts_259 rfl (hK_330 hS) (by decide) q rfl (by omega) ?_
                      refine r_aload0 (pc2 := 261) dX12_puts_260 rfl ?_
                      refine r_dup (pc2 := 262) dX12_puts_261 rfl rfl ?_
                      refine r_getI (z := ((s.2.2.2.1 : Nat) : Int)) (pc2 := 265) dX12_puts_262 rfl (Or.inl fX12_266) (hK_317 hS) hQ.2.2.2 ?_
                      refine r_iconst (pc2 := 266) dX12_puts_265 rfl ?_
                      refine r_iadd (c := ((s.2.2.2.1 + 1 : Nat) : Int)) (pc2 := 267) dX12_puts_266 rfl (by omega) ?_
                      refine r_putI (z := ((s.2.2.2.1 + 1 : Nat) : Int)) (pc2 := 270) dX12_puts_267 rfl fX12_266 (w12_26 _) (hK_317 hS) (by decide) ?_
                      refine r_ret dX12_puts_270 rfl ?_
                      refine ⟨rfl, ?_, ((((frQ.rf.I (by unfold okQ; omega)).I (by unfold okQ; omega)).I (by unfold okQ; omega)).I (by unfold okQ; omega)).I (by unfold okQ; omega)⟩
                      rw [qPut_y (K := 2) (Z := z) (V := 0) hq ⟨by omega, by omega, by omega, by omega⟩ (by omega) (fun c => hmv c.1) (by unfold kMir; (repeat' split) <;> omega) (by split <;> omega) (by (repeat' split) <;> omega)]
                      exact hQ.set (by omega)
                  · refine r_iconst (pc2 := 152) dX12_puts_151 rfl ?_
                    refine r_goto (tgt := 156) dX12_puts_152 (by decide) ?_
                    refine r_istore9 (pc2 := 158) dX12_puts_156 rfl rfl ?_
                    refine r_aload0 (pc2 := 159) dX12_puts_158 rfl ?_
                    refine r_getR (pc2 := 162) dX12_puts_159 rfl fX12_86 (hK_317 hS) (hR_317_17 hS) ?_
                    refine r_iload8 (pc2 := 164) dX12_puts_162 rfl ?_
                    refine r_iload2 (pc2 := 165) dX12_puts_164 rfl ?_
                    refine r_ifeq (tgt := 178) (pc2 := 168) dX12_puts_165 rfl (by decide) ⟨by omega, by omega⟩ (fun h9 => absurd h9 (by decide)) (fun _ => ?_)
                    refine r_iload5 (pc2 := 170) dX12_puts_168 rfl ?_
                    refine r_iconst (pc2 := 171) dX12_puts_170 rfl ?_
                    refine r_icne (tgt := 178) (pc2 := 174) dX12_puts_171 rfl (by decide) ⟨by omega, by omega⟩ ⟨by omega, by omega⟩ (fun b_171 => ?_) (fun b_171 => ?_)
                    · refine r_iload2 (pc2 := 179) dX12_puts_178 rfl ?_
                      refine r_ifeq (tgt := 192) (pc2 := 182) dX12_puts_179 rfl (by decide) ⟨by omega, by omega⟩ (fun h9 => absurd h9 (by decide)) (fun _ => ?_)
                      refine r_iload5 (pc2 := 184) dX12_puts_182 rfl ?_
                      refine r_iconst (pc2 := 185) dX12_puts_184 rfl ?_
                      refine r_icne (tgt := 192) (pc2 := 188) dX12_puts_185 rfl (by decide) ⟨by omega, by omega⟩ ⟨by omega, by omega⟩ (fun b_185 => ?_) (fun b_185 => ?_)
                      · refine r_iload5 (pc2 := 194) dX12_puts_192 rfl ?_
                        refine r_iast (z := k) (pc2 := 195) dX12_puts_194 rfl (hK_328 hS) (by decide) q rfl (by omega) ?_
                        refine r_aload0 (pc2 := 196) dX12_puts_195 rfl ?_
                        refine r_getR (pc2 := 199) dX12_puts_196 rfl fX12_89 (hK_317 hS) (hR_317_18 hS) ?_
                        refine r_iload8 (pc2 := 201) dX12_puts_199 rfl ?_
                        refine r_iload9 (pc2 := 203) dX12_puts_201 rfl ?_
                        refine r_ifeq (tgt := 210) (pc2 := 206) dX12_puts_203 rfl (by decide) ⟨by omega, by omega⟩ (fun h9 => absurd h9 (by decide)) (fun _ => ?_)
                        refine r_iconst (pc2 := 207) dX12_puts_206 rfl ?_
                        refine r_goto (tgt := 218) dX12_puts_207 (by decide) ?_
                        refine r_iast (z := 0) (pc2 := 219) dX12_puts_218 rfl (hK_329 hS) (by decide) q rfl (by omega) ?_
                        refine r_aload0 (pc2 := 220) dX12_puts_219 rfl ?_
                        refine r_getR (pc2 := 223) dX12_puts_220 rfl fX12_92 (hK_317 hS) (hR_317_19 hS) ?_
                        refine r_iload8 (pc2 := 225) dX12_puts_223 rfl ?_
                        refine r_iload9 (pc2 := 227) dX12_puts_225 rfl ?_
                        refine r_ifeq (tgt := 258) (pc2 := 230) dX12_puts_227 rfl (by decide) ⟨by omega, by omega⟩ (fun h9 => absurd h9 (by decide)) (fun _ => ?_)
                        refine r_iload2 (pc2 := 231) dX12_puts_230 rfl ?_
                        refine r_ifeq (tgt := 247) (pc2 := 234) dX12_puts_231 rfl (by decide) ⟨by omega, by omega⟩ (fun h9 => absurd h9 (by decide)) (fun _ => ?_)
                        refine r_iconst (pc2 := 235) dX12_puts_234 rfl ?_
                        refine r_aload0 (pc2 := 236) dX12_puts_235 rfl ?_
                        refine r_getR (pc2 := 239) dX12_puts_236 rfl fX12_74 (hK_317 hS) (hR_317_12 hS) ?_
                        refine r_iload1 (pc2 := 240) dX12_puts_239 rfl ?_
                        refine r_iconst (pc2 := 241) dX12_puts_240 rfl ?_
                        refine r_iadd (c := ((5 * i + 1 : Nat) : Int)) (pc2 := 242) dX12_puts_241 rfl (by omega) ?_
                        refine r_iald (z := z) (pc2 := 243) dX12_puts_242 rfl (hK_324 hS) (5 * i + 1) rfl (by omega) a2 ?_
                        refine r_isub (c := (1 - z)) (pc2 := 244) dX12_puts_243 rfl rfl ?_
                        refine r_goto (tgt := 259) dX12_puts_244 (by decide) ?_
                        refine r_iast (z := (1 - z)) (pc2 := 260) dX12_puts_259 rfl (hK_330 hS) (by decide) q rfl (by omega) ?_
                        refine r_aload0 (pc2 := 261) dX12_puts_260 rfl ?_
                        refine r_dup (pc2 := 262) dX12_puts_261 rfl rfl ?_
                        refine r_getI (z := ((s.2.2.2.1 : Nat) : Int)) (pc2 := 265) dX12_puts_262 rfl (Or.inl fX12_266) (hK_317 hS) hQ.2.2.2 ?_
                        refine r_iconst (pc2 := 266) dX12_puts_265 rfl ?_
                        refine r_iadd (c := ((s.2.2.2.1 + 1 : Nat) : Int)) (pc2 := 267) dX12_puts_266 rfl (by omega) ?_
                        refine r_putI (z := ((s.2.2.2.1 + 1 : Nat) : Int)) (pc2 := 270) dX12_puts_267 rfl fX12_266 (w12_26 _) (hK_317 hS) (by decide) ?_
                        refine r_ret dX12_puts_270 rfl ?_
                        refine ⟨rfl, ?_, ((((frQ.rf.I (by unfold okQ; omega)).I (by unfold okQ; omega)).I (by unfold okQ; omega)).I (by unfold okQ; omega)).I (by unfold okQ; omega)⟩
                        rw [qPut_y (K := k) (Z := 0) (V := (1 - z)) hq ⟨by omega, by omega, by omega, by omega⟩ (by omega) (fun c => hmv c.1) (by unfold kMir; (repeat' split) <;> omega) (by split <;> omega) (by (repeat' split) <;> omega)]
                        exact hQ.set (by omega)
                      · refine r_iconst (pc2 := 189) dX12_puts_188 rfl ?_
                        refine r_goto (tgt := 194) dX12_puts_189 (by decide) ?_
                        refine r_iast (z := 1) (pc2 := 195) dX12_puts_194 rfl (hK_328 hS) (by decide) q rfl (by omega) ?_
                        refine r_aload0 (pc2 := 196) dX12_puts_195 rfl ?_
                        refine r_getR (pc2 := 199) dX12_puts_196 rfl fX12_89 (hK_317 hS) (hR_317_18 hS) ?_
                        refine r_iload8 (pc2 := 201) dX12_puts_199 rfl ?_
                        refine r_iload9 (pc2 := 203) dX12_puts_201 rfl ?_
                        refine r_ifeq (tgt := 210) (pc2 := 206) dX12_puts_203 rfl (by decide) ⟨by omega, by omega⟩ (fun h9 => absurd h9 (by decide)) (fun _ => ?_)
                        refine r_iconst (pc2 := 207) dX12_puts_206 rfl ?_
                        refine r_goto (tgt := 218) dX12_puts_207 (by decide) ?_
                        refine r_iast (z := 0) (pc2 := 219) dX12_puts_218 rfl (hK_329 hS) (by decide) q rfl (by omega) ?_
                        refine r_aload0 (pc2 := 220) dX12_puts_219 rfl ?_
                        refine r_getR (pc2 := 223) dX12_puts_220 rfl fX12_92 (hK_317 hS) (hR_317_19 hS) ?_
                        refine r_iload8 (pc2 := 225) dX12_puts_223 rfl ?_
                        refine r_iload9 (pc2 := 227) dX12_puts_225 rfl ?_
                        refine r_ifeq (tgt := 258) (pc2 := 230) dX12_puts_227 rfl (by decide) ⟨by omega, by omega⟩ (fun h9 => absurd h9 (by decide)) (fun _ => ?_)
                        refine r_iload2 (pc2 := 231) dX12_puts_230 rfl ?_
                        refine r_ifeq (tgt := 247) (pc2 := 234) dX12_puts_231 rfl (by decide) ⟨by omega, by omega⟩ (fun h9 => absurd h9 (by decide)) (fun _ => ?_)
                        refine r_iconst (pc2 := 235) dX12_puts_234 rfl ?_
                        refine r_aload0 (pc2 := 236) dX12_puts_235 rfl ?_
                        refine r_getR (pc2 := 239) dX12_puts_236 rfl fX12_74 (hK_317 hS) (hR_317_12 hS) ?_
                        refine r_iload1 (pc2 := 240) dX12_puts_239 rfl ?_
                        refine r_iconst (pc2 := 241) dX12_puts_240 rfl ?_
                        refine r_iadd (c := ((5 * i + 1 : Nat) : Int)) (pc2 := 242) dX12_puts_241 rfl (by omega) ?_
                        refine r_iald (z := z) (pc2 := 243) dX12_puts_242 rfl (hK_324 hS) (5 * i + 1) rfl (by omega) a2 ?_
                        refine r_isub (c := (1 - z)) (pc2 := 244) dX12_puts_243 rfl rfl ?_
                        refine r_goto (tgt := 259) dX12_puts_244 (by decide) ?_
                        refine r_iast (z := (1 - z)) (pc2 := 260) dX12_puts_259 rfl (hK_330 hS) (by decide) q rfl (by omega) ?_
                        refine r_aload0 (pc2 := 261) dX12_puts_260 rfl ?_
                        refine r_dup (pc2 := 262) dX12_puts_261 rfl rfl ?_
                        refine r_getI (z := ((s.2.2.2.1 : Nat) : Int)) (pc2 := 265) dX12_puts_262 rfl (Or.inl fX12_266) (hK_317 hS) hQ.2.2.2 ?_
                        refine r_iconst (pc2 := 266) dX12_puts_265 rfl ?_
                        refine r_iadd (c := ((s.2.2.2.1 + 1 : Nat) : Int)) (pc2 := 267) dX12_puts_266 rfl (by omega) ?_
                        refine r_putI (z := ((s.2.2.2.1 + 1 : Nat) : Int)) (pc2 := 270) dX12_puts_267 rfl fX12_266 (w12_26 _) (hK_317 hS) (by decide) ?_
                        refine r_ret dX12_puts_270 rfl ?_
                        refine ⟨rfl, ?_, ((((frQ.rf.I (by unfold okQ; omega)).I (by unfold okQ; omega)).I (by unfold okQ; omega)).I (by unfold okQ; omega)).I (by unfold okQ; omega)⟩
                        rw [qPut_y (K := 1) (Z := 0) (V := (1 - z)) hq ⟨by omega, by omega, by omega, by omega⟩ (by omega) (fun c => hmv c.1) (by unfold kMir; (repeat' split) <;> omega) (by split <;> omega) (by (repeat' split) <;> omega)]
                        exact hQ.set (by omega)
                    · refine r_iconst (pc2 := 175) dX12_puts_174 rfl ?_
                      refine r_goto (tgt := 194) dX12_puts_175 (by decide) ?_
                      refine r_iast (z := 2) (pc2 := 195) dX12_puts_194 rfl (hK_328 hS) (by decide) q rfl (by omega) ?_
                      refine r_aload0 (pc2 := 196) dX12_puts_195 rfl ?_
                      refine r_getR (pc2 := 199) dX12_puts_196 rfl fX12_89 (hK_317 hS) (hR_317_18 hS) ?_
                      refine r_iload8 (pc2 := 201) dX12_puts_199 rfl ?_
                      refine r_iload9 (pc2 := 203) dX12_puts_201 rfl ?_
                      refine r_ifeq (tgt := 210) (pc2 := 206) dX12_puts_203 rfl (by decide) ⟨by omega, by omega⟩ (fun h9 => absurd h9 (by decide)) (fun _ => ?_)
                      refine r_iconst (pc2 := 207) dX12_puts_206 rfl ?_
                      refine r_goto (tgt := 218) dX12_puts_207 (by decide) ?_
                      refine r_iast (z := 0) (pc2 := 219) dX12_puts_218 rfl (hK_329 hS) (by decide) q rfl (by omega) ?_
                      refine r_aload0 (pc2 := 220) dX12_puts_219 rfl ?_
                      refine r_getR (pc2 := 223) dX12_puts_220 rfl fX12_92 (hK_317 hS) (hR_317_19 hS) ?_
                      refine r_iload8 (pc2 := 225) dX12_puts_223 rfl ?_
                      refine r_iload9 (pc2 := 227) dX12_puts_225 rfl ?_
                      refine r_ifeq (tgt := 258) (pc2 := 230) dX12_puts_227 rfl (by decide) ⟨by omega, by omega⟩ (fun h9 => absurd h9 (by decide)) (fun _ => ?_)
                      refine r_iload2 (pc2 := 231) dX12_puts_230 rfl ?_
                      refine r_ifeq (tgt := 247) (pc2 := 234) dX12_puts_231 rfl (by decide) ⟨by omega, by omega⟩ (fun h9 => absurd h9 (by decide)) (fun _ => ?_)
                      refine r_iconst (pc2 := 235) dX12_puts_234 rfl ?_
                      refine r_aload0 (pc2 := 236) dX12_puts_235 rfl ?_
                      refine r_getR (pc2 := 239) dX12_puts_236 rfl fX12_74 (hK_317 hS) (hR_317_12 hS) ?_
                      refine r_iload1 (pc2 := 240) dX12_puts_239 rfl ?_
                      refine r_iconst (pc2 := 241) dX12_puts_240 rfl ?_
                      refine r_iadd (c := ((5 * i + 1 : Nat) : Int)) (pc2 := 242) dX12_puts_241 rfl (by omega) ?_
                      refine r_iald (z := z) (pc2 := 243) dX12_puts_242 rfl (hK_324 hS) (5 * i + 1) rfl (by omega) a2 ?_
                      refine r_isub (c := (1 - z)) (pc2 := 244) dX12_puts_243 rfl rfl ?_
                      refine r_goto (tgt := 259) dX12_puts_244 (by decide) ?_
                      refine r_iast (z := (1 - z)) (pc2 := 260) dX12_puts_259 rfl (hK_330 hS) (by decide) q rfl (by omega) ?_
                      refine r_aload0 (pc2 := 261) dX12_puts_260 rfl ?_
                      refine r_dup (pc2 := 262) dX12_puts_261 rfl rfl ?_
                      refine r_getI (z := ((s.2.2.2.1 : Nat) : Int)) (pc2 := 265) dX12_puts_262 rfl (Or.inl fX12_266) (hK_317 hS) hQ.2.2.2 ?_
                      refine r_iconst (pc2 := 266) dX12_puts_265 rfl ?_
                      refine r_iadd (c := ((s.2.2.2.1 + 1 : Nat) : Int)) (pc2 := 267) dX12_puts_266 rfl (by omega) ?_
                      refine r_putI (z := ((s.2.2.2.1 + 1 : Nat) : Int)) (pc2 := 270) dX12_puts_267 rfl fX12_266 (w12_26 _) (hK_317 hS) (by decide) ?_
                      refine r_ret dX12_puts_270 rfl ?_
                      refine ⟨rfl, ?_, ((((frQ.rf.I (by unfold okQ; omega)).I (by unfold okQ; omega)).I (by unfold okQ; omega)).I (by unfold okQ; omega)).I (by unfold okQ; omega)⟩
                      rw [qPut_y (K := 2) (Z := 0) (V := (1 - z)) hq ⟨by omega, by omega, by omega, by omega⟩ (by omega) (fun c => hmv c.1) (by unfold kMir; (repeat' split) <;> omega) (by split <;> omega) (by (repeat' split) <;> omega)]
                      exact hQ.set (by omega)
              · refine r_ret dX12_puts_137 rfl ?_
                exact absurd b_134 (by decide)
          · refine r_iconst (pc2 := 101) dX12_puts_100 rfl ?_
            refine r_goto (tgt := 127) dX12_puts_101 (by decide) ?_
            refine r_putI (z := 2) (pc2 := 130) dX12_puts_127 rfl fX12_260 (w12_24 _) (hK_317 hS) (by decide) ?_
            refine r_aload0 (pc2 := 131) dX12_puts_130 rfl ?_
            refine r_getI (z := 2) (pc2 := 134) dX12_puts_131 rfl (Or.inl fX12_260) (hK_317 hS) rfl ?_
            refine r_ifle (tgt := 138) (pc2 := 137) dX12_puts_134 rfl (by decide) ⟨by omega, by omega⟩ (fun b_134 => ?_) (fun b_134 => ?_)
            · refine r_iload5 (pc2 := 140) dX12_puts_138 rfl ?_
              refine r_iconst (pc2 := 141) dX12_puts_140 rfl ?_
              refine r_iceq (tgt := 151) (pc2 := 144) dX12_puts_141 rfl (by decide) ⟨by omega, by omega⟩ ⟨by omega, by omega⟩ (fun b_141 => ?_) (fun b_141 => ?_)
              · refine r_iconst (pc2 := 152) dX12_puts_151 rfl ?_
                refine r_goto (tgt := 156) dX12_puts_152 (by decide) ?_
                refine r_istore9 (pc2 := 158) dX12_puts_156 rfl rfl ?_
                refine r_aload0 (pc2 := 159) dX12_puts_158 rfl ?_
                refine r_getR (pc2 := 162) dX12_puts_159 rfl fX12_86 (hK_317 hS) (hR_317_17 hS) ?_
                refine r_iload8 (pc2 := 164) dX12_puts_162 rfl ?_
                refine r_iload2 (pc2 := 165) dX12_puts_164 rfl ?_
                refine r_ifeq (tgt := 178) (pc2 := 168) dX12_puts_165 rfl (by decide) ⟨by omega, by omega⟩ (fun h9 => absurd h9 (by decide)) (fun _ => ?_)
                refine r_iload5 (pc2 := 170) dX12_puts_168 rfl ?_
                refine r_iconst (pc2 := 171) dX12_puts_170 rfl ?_
                refine r_icne (tgt := 178) (pc2 := 174) dX12_puts_171 rfl (by decide) ⟨by omega, by omega⟩ ⟨by omega, by omega⟩ (fun b_171 => ?_) (fun b_171 => ?_)
                · refine r_iload2 (pc2 := 179) dX12_puts_178 rfl ?_
                  refine r_ifeq (tgt := 192) (pc2 := 182) dX12_puts_179 rfl (by decide) ⟨by omega, by omega⟩ (fun h9 => absurd h9 (by decide)) (fun _ => ?_)
                  refine r_iload5 (pc2 := 184) dX12_puts_182 rfl ?_
                  refine r_iconst (pc2 := 185) dX12_puts_184 rfl ?_
                  refine r_icne (tgt := 192) (pc2 := 188) dX12_puts_185 rfl (by decide) ⟨by omega, by omega⟩ ⟨by omega, by omega⟩ (fun b_185 => ?_) (fun b_185 => ?_)
                  · refine r_iload5 (pc2 := 194) dX12_puts_192 rfl ?_
                    refine r_iast (z := k) (pc2 := 195) dX12_puts_194 rfl (hK_328 hS) (by decide) q rfl (by omega) ?_
                    refine r_aload0 (pc2 := 196) dX12_puts_195 rfl ?_
                    refine r_getR (pc2 := 199) dX12_puts_196 rfl fX12_89 (hK_317 hS) (hR_317_18 hS) ?_
                    refine r_iload8 (pc2 := 201) dX12_puts_199 rfl ?_
                    refine r_iload9 (pc2 := 203) dX12_puts_201 rfl ?_
                    refine r_ifeq (tgt := 210) (pc2 := 206) dX12_puts_203 rfl (by decide) ⟨by omega, by omega⟩ (fun h9 => absurd h9 (by decide)) (fun _ => ?_)
                    refine r_iconst (pc2 := 207) dX12_puts_206 rfl ?_
                    refine r_goto (tgt := 218) dX12_puts_207 (by decide) ?_
                    refine r_iast (z := 0) (pc2 := 219) dX12_puts_218 rfl (hK_329 hS) (by decide) q rfl (by omega) ?_
                    refine r_aload0 (pc2 := 220) dX12_puts_219 rfl ?_
                    refine r_getR (pc2 := 223) dX12_puts_220 rfl fX12_92 (hK_317 hS) (hR_317_19 hS) ?_
                    refine r_iload8 (pc2 := 225) dX12_puts_223 rfl ?_
                    refine r_iload9 (pc2 := 227) dX12_puts_225 rfl ?_
                    refine r_ifeq (tgt := 258) (pc2 := 230) dX12_puts_227 rfl (by decide) ⟨by omega, by omega⟩ (fun h9 => absurd h9 (by decide)) (fun _ => ?_)
                    refine r_iload2 (pc2 := 231) dX12_puts_230 rfl ?_
                    refine r_ifeq (tgt := 247) (pc2 := 234) dX12_puts_231 rfl (by decide) ⟨by omega, by omega⟩ (fun h9 => absurd h9 (by decide)) (fun _ => ?_)
                    refine r_iconst (pc2 := 235) dX12_puts_234 rfl ?_
                    refine r_aload0 (pc2 := 236) dX12_puts_235 rfl ?_
                    refine r_getR (pc2 := 239) dX12_puts_236 rfl fX12_74 (hK_317 hS) (hR_317_12 hS) ?_
                    refine r_iload1 (pc2 := 240) dX12_puts_239 rfl ?_
                    refine r_iconst (pc2 := 241) dX12_puts_240 rfl ?_
                    refine r_iadd (c := ((5 * i + 1 : Nat) : Int)) (pc2 := 242) dX12_puts_241 rfl (by omega) ?_
                    refine r_iald (z := z) (pc2 := 243) dX12_puts_242 rfl (hK_324 hS) (5 * i + 1) rfl (by omega) a2 ?_
                    refine r_isub (c := (1 - z)) (pc2 := 244) dX12_puts_243 rfl rfl ?_
                    refine r_goto (tgt := 259) dX12_puts_244 (by decide) ?_
                    refine r_iast (z := (1 - z)) (pc2 := 260) dX12_puts_259 rfl (hK_330 hS) (by decide) q rfl (by omega) ?_
                    refine r_aload0 (pc2 := 261) dX12_puts_260 rfl ?_
                    refine r_dup (pc2 := 262) dX12_puts_261 rfl rfl ?_
                    refine r_getI (z := ((s.2.2.2.1 : Nat) : Int)) (pc2 := 265) dX12_puts_262 rfl (Or.inl fX12_266) (hK_317 hS) hQ.2.2.2 ?_
                    refine r_iconst (pc2 := 266) dX12_puts_265 rfl ?_
                    refine r_iadd (c := ((s.2.2.2.1 + 1 : Nat) : Int)) (pc2 := 267) dX12_puts_266 rfl (by omega) ?_
                    refine r_putI (z := ((s.2.2.2.1 + 1 : Nat) : Int)) (pc2 := 270) dX12_puts_267 rfl fX12_266 (w12_26 _) (hK_317 hS) (by decide) ?_
                    refine r_ret dX12_puts_270 rfl ?_
                    exact absurd b_134 (by decide)
                  · refine r_iconst (pc2 := 189) dX12_puts_188 rfl ?_
                    refine r_goto (tgt := 194) dX12_puts_189 (by decide) ?_
                    refine r_iast (z := 1) (pc2 := 195) dX12_puts_194 rfl (hK_328 hS) (by decide) q rfl (by omega) ?_
                    refine r_aload0 (pc2 := 196) dX12_puts_195 rfl ?_
                    refine r_getR (pc2 := 199) dX12_puts_196 rfl fX12_89 (hK_317 hS) (hR_317_18 hS) ?_
                    refine r_iload8 (pc2 := 201) dX12_puts_199 rfl ?_
                    refine r_iload9 (pc2 := 203) dX12_puts_201 rfl ?_
                    refine r_ifeq (tgt := 210) (pc2 := 206) dX12_puts_203 rfl (by decide) ⟨by omega, by omega⟩ (fun h9 => absurd h9 (by decide)) (fun _ => ?_)
                    refine r_iconst (pc2 := 207) dX12_puts_206 rfl ?_
                    refine r_goto (tgt := 218) dX12_puts_207 (by decide) ?_
                    refine r_iast (z := 0) (pc2 := 219) dX12_puts_218 rfl (hK_329 hS) (by decide) q rfl (by omega) ?_
                    refine r_aload0 (pc2 := 220) dX12_puts_219 rfl ?_
                    refine r_getR (pc2 := 223) dX12_puts_220 rfl fX12_92 (hK_317 hS) (hR_317_19 hS) ?_
                    refine r_iload8 (pc2 := 225) dX12_puts_223 rfl ?_
                    refine r_iload9 (pc2 := 227) dX12_puts_225 rfl ?_
                    refine r_ifeq (tgt := 258) (pc2 := 230) dX12_puts_227 rfl (by decide) ⟨by omega, by omega⟩ (fun h9 => absurd h9 (by decide)) (fun _ => ?_)
                    refine r_iload2 (pc2 := 231) dX12_puts_230 rfl ?_
                    refine r_ifeq (tgt := 247) (pc2 := 234) dX12_puts_231 rfl (by decide) ⟨by omega, by omega⟩ (fun h9 => absurd h9 (by decide)) (fun _ => ?_)
                    refine r_iconst (pc2 := 235) dX12_puts_234 rfl ?_
                    refine r_aload0 (pc2 := 236) dX12_puts_235 rfl ?_
                    refine r_getR (pc2 := 239) dX12_puts_236 rfl fX12_74 (hK_317 hS) (hR_317_12 hS) ?_
                    refine r_iload1 (pc2 := 240) dX12_puts_239 rfl ?_
                    refine r_iconst (pc2 := 241) dX12_puts_240 rfl ?_
                    refine r_iadd (c := ((5 * i + 1 : Nat) : Int)) (pc2 := 242) dX12_puts_241 rfl (by omega) ?_
                    refine r_iald (z := z) (pc2 := 243) dX12_puts_242 rfl (hK_324 hS) (5 * i + 1) rfl (by omega) a2 ?_
                    refine r_isub (c := (1 - z)) (pc2 := 244) dX12_puts_243 rfl rfl ?_
                    refine r_goto (tgt := 259) dX12_puts_244 (by decide) ?_
                    refine r_iast (z := (1 - z)) (pc2 := 260) dX12_puts_259 rfl (hK_330 hS) (by decide) q rfl (by omega) ?_
                    refine r_aload0 (pc2 := 261) dX12_puts_260 rfl ?_
                    refine r_dup (pc2 := 262) dX12_puts_261 rfl rfl ?_
                    refine r_getI (z := ((s.2.2.2.1 : Nat) : Int)) (pc2 := 265) dX12_puts_262 rfl (Or.inl fX12_266) (hK_317 hS) hQ.2.2.2 ?_
                    refine r_iconst (pc2 := 266) dX12_puts_265 rfl ?_
                    refine r_iadd (c := ((s.2.2.2.1 + 1 : Nat) : Int)) (pc2 := 267) dX12_puts_266 rfl (by omega) ?_
                    refine r_putI (z := ((s.2.2.2.1 + 1 : Nat) : Int)) (pc2 := 270) dX12_puts_267 rfl fX12_266 (w12_26 _) (hK_317 hS) (by decide) ?_
                    refine r_ret dX12_puts_270 rfl ?_
                    exact absurd b_134 (by decide)
                · refine r_iconst (pc2 := 175) dX12_puts_174 rfl ?_
                  refine r_goto (tgt := 194) dX12_puts_175 (by decide) ?_
                  refine r_iast (z := 2) (pc2 := 195) dX12_puts_194 rfl (hK_328 hS) (by decide) q rfl (by omega) ?_
                  refine r_aload0 (pc2 := 196) dX12_puts_195 rfl ?_
                  refine r_getR (pc2 := 199) dX12_puts_196 rfl fX12_89 (hK_317 hS) (hR_317_18 hS) ?_
                  refine r_iload8 (pc2 := 201) dX12_puts_199 rfl ?_
                  refine r_iload9 (pc2 := 203) dX12_puts_201 rfl ?_
                  refine r_ifeq (tgt := 210) (pc2 := 206) dX12_puts_203 rfl (by decide) ⟨by omega, by omega⟩ (fun h9 => absurd h9 (by decide)) (fun _ => ?_)
                  refine r_iconst (pc2 := 207) dX12_puts_206 rfl ?_
                  refine r_goto (tgt := 218) dX12_puts_207 (by decide) ?_
                  refine r_iast (z := 0) (pc2 := 219) dX12_puts_218 rfl (hK_329 hS) (by decide) q rfl (by omega) ?_
                  refine r_aload0 (pc2 := 220) dX12_puts_219 rfl ?_
                  refine r_getR (pc2 := 223) dX12_puts_220 rfl fX12_92 (hK_317 hS) (hR_317_19 hS) ?_
                  refine r_iload8 (pc2 := 225) dX12_puts_223 rfl ?_
                  refine r_iload9 (pc2 := 227) dX12_puts_225 rfl ?_
                  refine r_ifeq (tgt := 258) (pc2 := 230) dX12_puts_227 rfl (by decide) ⟨by omega, by omega⟩ (fun h9 => absurd h9 (by decide)) (fun _ => ?_)
                  refine r_iload2 (pc2 := 231) dX12_puts_230 rfl ?_
                  refine r_ifeq (tgt := 247) (pc2 := 234) dX12_puts_231 rfl (by decide) ⟨by omega, by omega⟩ (fun h9 => absurd h9 (by decide)) (fun _ => ?_)
                  refine r_iconst (pc2 := 235) dX12_puts_234 rfl ?_
                  refine r_aload0 (pc2 := 236) dX12_puts_235 rfl ?_
                  refine r_getR (pc2 := 239) dX12_puts_236 rfl fX12_74 (hK_317 hS) (hR_317_12 hS) ?_
                  refine r_iload1 (pc2 := 240) dX12_puts_239 rfl ?_
                  refine r_iconst (pc2 := 241) dX12_puts_240 rfl ?_
                  refine r_iadd (c := ((5 * i + 1 : Nat) : Int)) (pc2 := 242) dX12_puts_241 rfl (by omega) ?_
                  refine r_iald (z := z) (pc2 := 243) dX12_puts_242 rfl (hK_324 hS) (5 * i + 1) rfl (by omega) a2 ?_
                  refine r_isub (c := (1 - z)) (pc2 := 244) dX12_puts_243 rfl rfl ?_
                  refine r_goto (tgt := 259) dX12_puts_244 (by decide) ?_
                  refine r_iast (z := (1 - z)) (pc2 := 260) dX12_puts_259 rfl (hK_330 hS) (by decide) q rfl (by omega) ?_
                  refine r_aload0 (pc2 := 261) dX12_puts_260 rfl ?_
                  refine r_dup (pc2 := 262) dX12_puts_261 rfl rfl ?_
                  refine r_getI (z := ((s.2.2.2.1 : Nat) : Int)) (pc2 := 265) dX12_puts_262 rfl (Or.inl fX12_266) (hK_317 hS) hQ.2.2.2 ?_
                  refine r_iconst (pc2 := 266) dX12_puts_265 rfl ?_
                  refine r_iadd (c := ((s.2.2.2.1 + 1 : Nat) : Int)) (pc2 := 267) dX12_puts_266 rfl (by omega) ?_
                  refine r_putI (z := ((s.2.2.2.1 + 1 : Nat) : Int)) (pc2 := 270) dX12_puts_267 rfl fX12_266 (w12_26 _) (hK_317 hS) (by decide) ?_
                  refine r_ret dX12_puts_270 rfl ?_
                  exact absurd b_134 (by decide)
              · refine r_iload5 (pc2 := 146) dX12_puts_144 rfl ?_
                refine r_bipush (pc2 := 148) dX12_puts_146 rfl (by decide) (by decide) ?_
                refine r_icne (tgt := 155) (pc2 := 151) dX12_puts_148 rfl (by decide) ⟨by omega, by omega⟩ ⟨by omega, by omega⟩ (fun b_148 => ?_) (fun b_148 => ?_)
                · refine r_iconst (pc2 := 156) dX12_puts_155 rfl ?_
                  refine r_istore9 (pc2 := 158) dX12_puts_156 rfl rfl ?_
                  refine r_aload0 (pc2 := 159) dX12_puts_158 rfl ?_
                  refine r_getR (pc2 := 162) dX12_puts_159 rfl fX12_86 (hK_317 hS) (hR_317_17 hS) ?_
                  refine r_iload8 (pc2 := 164) dX12_puts_162 rfl ?_
                  refine r_iload2 (pc2 := 165) dX12_puts_164 rfl ?_
                  refine r_ifeq (tgt := 178) (pc2 := 168) dX12_puts_165 rfl (by decide) ⟨by omega, by omega⟩ (fun h9 => absurd h9 (by decide)) (fun _ => ?_)
                  refine r_iload5 (pc2 := 170) dX12_puts_168 rfl ?_
                  refine r_iconst (pc2 := 171) dX12_puts_170 rfl ?_
                  refine r_icne (tgt := 178) (pc2 := 174) dX12_puts_171 rfl (by decide) ⟨by omega, by omega⟩ ⟨by omega, by omega⟩ (fun b_171 => ?_) (fun b_171 => ?_)
                  · refine r_iload2 (pc2 := 179) dX12_puts_178 rfl ?_
                    refine r_ifeq (tgt := 192) (pc2 := 182) dX12_puts_179 rfl (by decide) ⟨by omega, by omega⟩ (fun h9 => absurd h9 (by decide)) (fun _ => ?_)
                    refine r_iload5 (pc2 := 184) dX12_puts_182 rfl ?_
                    refine r_iconst (pc2 := 185) dX12_puts_184 rfl ?_
                    refine r_icne (tgt := 192) (pc2 := 188) dX12_puts_185 rfl (by decide) ⟨by omega, by omega⟩ ⟨by omega, by omega⟩ (fun b_185 => ?_) (fun b_185 => ?_)
                    · refine r_iload5 (pc2 := 194) dX12_puts_192 rfl ?_
                      refine r_iast (z := k) (pc2 := 195) dX12_puts_194 rfl (hK_328 hS) (by decide) q rfl (by omega) ?_
                      refine r_aload0 (pc2 := 196) dX12_puts_195 rfl ?_
                      refine r_getR (pc2 := 199) dX12_puts_196 rfl fX12_89 (hK_317 hS) (hR_317_18 hS) ?_
                      refine r_iload8 (pc2 := 201) dX12_puts_199 rfl ?_
                      refine r_iload9 (pc2 := 203) dX12_puts_201 rfl ?_
                      refine r_ifeq (tgt := 210) (pc2 := 206) dX12_puts_203 rfl (by decide) ⟨by omega, by omega⟩ (fun _ => ?_) (fun h9 => absurd h9 (by decide))
                      refine r_aload0 (pc2 := 211) dX12_puts_210 rfl ?_
                      refine r_getR (pc2 := 214) dX12_puts_211 rfl fX12_74 (hK_317 hS) (hR_317_12 hS) ?_
                      refine r_iload1 (pc2 := 215) dX12_puts_214 rfl ?_
                      refine r_iconst (pc2 := 216) dX12_puts_215 rfl ?_
                      refine r_iadd (c := ((5 * i + 1 : Nat) : Int)) (pc2 := 217) dX12_puts_216 rfl (by omega) ?_
                      refine r_iald (z := z) (pc2 := 218) dX12_puts_217 rfl (hK_324 hS) (5 * i + 1) rfl (by omega) a2 ?_
                      refine r_iast (z := z) (pc2 := 219) dX12_puts_218 rfl (hK_329 hS) (by decide) q rfl (by omega) ?_
                      refine r_aload0 (pc2 := 220) dX12_puts_219 rfl ?_
                      refine r_getR (pc2 := 223) dX12_puts_220 rfl fX12_92 (hK_317 hS) (hR_317_19 hS) ?_
                      refine r_iload8 (pc2 := 225) dX12_puts_223 rfl ?_
                      refine r_iload9 (pc2 := 227) dX12_puts_225 rfl ?_
                      refine r_ifeq (tgt := 258) (pc2 := 230) dX12_puts_227 rfl (by decide) ⟨by omega, by omega⟩ (fun _ => ?_) (fun h9 => absurd h9 (by decide))
                      refine r_iconst (pc2 := 259) dX12_puts_258 rfl ?_
                      refine r_iast (z := 0) (pc2 := 260) dX12_puts_259 rfl (hK_330 hS) (by decide) q rfl (by omega) ?_
                      refine r_aload0 (pc2 := 261) dX12_puts_260 rfl ?_
                      refine r_dup (pc2 := 262) dX12_puts_261 rfl rfl ?_
                      refine r_getI (z := ((s.2.2.2.1 : Nat) : Int)) (pc2 := 265) dX12_puts_262 rfl (Or.inl fX12_266) (hK_317 hS) hQ.2.2.2 ?_
                      refine r_iconst (pc2 := 266) dX12_puts_265 rfl ?_
                      refine r_iadd (c := ((s.2.2.2.1 + 1 : Nat) : Int)) (pc2 := 267) dX12_puts_266 rfl (by omega) ?_
                      refine r_putI (z := ((s.2.2.2.1 + 1 : Nat) : Int)) (pc2 := 270) dX12_puts_267 rfl fX12_266 (w12_26 _) (hK_317 hS) (by decide) ?_
                      refine r_ret dX12_puts_270 rfl ?_
                      exact absurd b_134 (by decide)
                    · refine r_iconst (pc2 := 189) dX12_puts_188 rfl ?_
                      refine r_goto (tgt := 194) dX12_puts_189 (by decide) ?_
                      refine r_iast (z := 1) (pc2 := 195) dX12_puts_194 rfl (hK_328 hS) (by decide) q rfl (by omega) ?_
                      refine r_aload0 (pc2 := 196) dX12_puts_195 rfl ?_
                      refine r_getR (pc2 := 199) dX12_puts_196 rfl fX12_89 (hK_317 hS) (hR_317_18 hS) ?_
                      refine r_iload8 (pc2 := 201) dX12_puts_199 rfl ?_
                      refine r_iload9 (pc2 := 203) dX12_puts_201 rfl ?_
                      refine r_ifeq (tgt := 210) (pc2 := 206) dX12_puts_203 rfl (by decide) ⟨by omega, by omega⟩ (fun _ => ?_) (fun h9 => absurd h9 (by decide))
                      refine r_aload0 (pc2 := 211) dX12_puts_210 rfl ?_
                      refine r_getR (pc2 := 214) dX12_puts_211 rfl fX12_74 (hK_317 hS) (hR_317_12 hS) ?_
                      refine r_iload1 (pc2 := 215) dX12_puts_214 rfl ?_
                      refine r_iconst (pc2 := 216) dX12_puts_215 rfl ?_
                      refine r_iadd (c := ((5 * i + 1 : Nat) : Int)) (pc2 := 217) dX12_puts_216 rfl (by omega) ?_
                      refine r_iald (z := z) (pc2 := 218) dX12_puts_217 rfl (hK_324 hS) (5 * i + 1) rfl (by omega) a2 ?_
                      refine r_iast (z := z) (pc2 := 219) dX12_puts_218 rfl (hK_329 hS) (by decide) q rfl (by omega) ?_
                      refine r_aload0 (pc2 := 220) dX12_puts_219 rfl ?_
                      refine r_getR (pc2 := 223) dX12_puts_220 rfl fX12_92 (hK_317 hS) (hR_317_19 hS) ?_
                      refine r_iload8 (pc2 := 225) dX12_puts_223 rfl ?_
                      refine r_iload9 (pc2 := 227) dX12_puts_225 rfl ?_
                      refine r_ifeq (tgt := 258) (pc2 := 230) dX12_puts_227 rfl (by decide) ⟨by omega, by omega⟩ (fun _ => ?_) (fun h9 => absurd h9 (by decide))
                      refine r_iconst (pc2 := 259) dX12_puts_258 rfl ?_
                      refine r_iast (z := 0) (pc2 := 260) dX12_puts_259 rfl (hK_330 hS) (by decide) q rfl (by omega) ?_
                      refine r_aload0 (pc2 := 261) dX12_puts_260 rfl ?_
                      refine r_dup (pc2 := 262) dX12_puts_261 rfl rfl ?_
                      refine r_getI (z := ((s.2.2.2.1 : Nat) : Int)) (pc2 := 265) dX12_puts_262 rfl (Or.inl fX12_266) (hK_317 hS) hQ.2.2.2 ?_
                      refine r_iconst (pc2 := 266) dX12_puts_265 rfl ?_
                      refine r_iadd (c := ((s.2.2.2.1 + 1 : Nat) : Int)) (pc2 := 267) dX12_puts_266 rfl (by omega) ?_
                      refine r_putI (z := ((s.2.2.2.1 + 1 : Nat) : Int)) (pc2 := 270) dX12_puts_267 rfl fX12_266 (w12_26 _) (hK_317 hS) (by decide) ?_
                      refine r_ret dX12_puts_270 rfl ?_
                      exact absurd b_134 (by decide)
                  · refine r_iconst (pc2 := 175) dX12_puts_174 rfl ?_
                    refine r_goto (tgt := 194) dX12_puts_175 (by decide) ?_
                    refine r_iast (z := 2) (pc2 := 195) dX12_puts_194 rfl (hK_328 hS) (by decide) q rfl (by omega) ?_
                    refine r_aload0 (pc2 := 196) dX12_puts_195 rfl ?_
                    refine r_getR (pc2 := 199) dX12_puts_196 rfl fX12_89 (hK_317 hS) (hR_317_18 hS) ?_
                    refine r_iload8 (pc2 := 201) dX12_puts_199 rfl ?_
                    refine r_iload9 (pc2 := 203) dX12_puts_201 rfl ?_
                    refine r_ifeq (tgt := 210) (pc2 := 206) dX12_puts_203 rfl (by decide) ⟨by omega, by omega⟩ (fun _ => ?_) (fun h9 => absurd h9 (by decide))
                    refine r_aload0 (pc2 := 211) dX12_puts_210 rfl ?_
                    refine r_getR (pc2 := 214) dX12_puts_211 rfl fX12_74 (hK_317 hS) (hR_317_12 hS) ?_
                    refine r_iload1 (pc2 := 215) dX12_puts_214 rfl ?_
                    refine r_iconst (pc2 := 216) dX12_puts_215 rfl ?_
                    refine r_iadd (c := ((5 * i + 1 : Nat) : Int)) (pc2 := 217) dX12_puts_216 rfl (by omega) ?_
                    refine r_iald (z := z) (pc2 := 218) dX12_puts_217 rfl (hK_324 hS) (5 * i + 1) rfl (by omega) a2 ?_
                    refine r_iast (z := z) (pc2 := 219) dX12_puts_218 rfl (hK_329 hS) (by decide) q rfl (by omega) ?_
                    refine r_aload0 (pc2 := 220) dX12_puts_219 rfl ?_
                    refine r_getR (pc2 := 223) dX12_puts_220 rfl fX12_92 (hK_317 hS) (hR_317_19 hS) ?_
                    refine r_iload8 (pc2 := 225) dX12_puts_223 rfl ?_
                    refine r_iload9 (pc2 := 227) dX12_puts_225 rfl ?_
                    refine r_ifeq (tgt := 258) (pc2 := 230) dX12_puts_227 rfl (by decide) ⟨by omega, by omega⟩ (fun _ => ?_) (fun h9 => absurd h9 (by decide))
                    refine r_iconst (pc2 := 259) dX12_puts_258 rfl ?_
                    refine r_iast (z := 0) (pc2 := 260) dX12_puts_259 rfl (hK_330 hS) (by decide) q rfl (by omega) ?_
                    refine r_aload0 (pc2 := 261) dX12_puts_260 rfl ?_
                    refine r_dup (pc2 := 262) dX12_puts_261 rfl rfl ?_
                    refine r_getI (z := ((s.2.2.2.1 : Nat) : Int)) (pc2 := 265) dX12_puts_262 rfl (Or.inl fX12_266) (hK_317 hS) hQ.2.2.2 ?_
                    refine r_iconst (pc2 := 266) dX12_puts_265 rfl ?_
                    refine r_iadd (c := ((s.2.2.2.1 + 1 : Nat) : Int)) (pc2 := 267) dX12_puts_266 rfl (by omega) ?_
                    refine r_putI (z := ((s.2.2.2.1 + 1 : Nat) : Int)) (pc2 := 270) dX12_puts_267 rfl fX12_266 (w12_26 _) (hK_317 hS) (by decide) ?_
                    refine r_ret dX12_puts_270 rfl ?_
                    exact absurd b_134 (by decide)
                · refine r_iconst (pc2 := 152) dX12_puts_151 rfl ?_
                  refine r_goto (tgt := 156) dX12_puts_152 (by decide) ?_
                  refine r_istore9 (pc2 := 158) dX12_puts_156 rfl rfl ?_
                  refine r_aload0 (pc2 := 159) dX12_puts_158 rfl ?_
                  refine r_getR (pc2 := 162) dX12_puts_159 rfl fX12_86 (hK_317 hS) (hR_317_17 hS) ?_
                  refine r_iload8 (pc2 := 164) dX12_puts_162 rfl ?_
                  refine r_iload2 (pc2 := 165) dX12_puts_164 rfl ?_
                  refine r_ifeq (tgt := 178) (pc2 := 168) dX12_puts_165 rfl (by decide) ⟨by omega, by omega⟩ (fun h9 => absurd h9 (by decide)) (fun _ => ?_)
                  refine r_iload5 (pc2 := 170) dX12_puts_168 rfl ?_
                  refine r_iconst (pc2 := 171) dX12_puts_170 rfl ?_
                  refine r_icne (tgt := 178) (pc2 := 174) dX12_puts_171 rfl (by decide) ⟨by omega, by omega⟩ ⟨by omega, by omega⟩ (fun b_171 => ?_) (fun b_171 => ?_)
                  · refine r_iload2 (pc2 := 179) dX12_puts_178 rfl ?_
                    refine r_ifeq (tgt := 192) (pc2 := 182) dX12_puts_179 rfl (by decide) ⟨by omega, by omega⟩ (fun h9 => absurd h9 (by decide)) (fun _ => ?_)
                    refine r_iload5 (pc2 := 184) dX12_puts_182 rfl ?_
                    refine r_iconst (pc2 := 185) dX12_puts_184 rfl ?_
                    refine r_icne (tgt := 192) (pc2 := 188) dX12_puts_185 rfl (by decide) ⟨by omega, by omega⟩ ⟨by omega, by omega⟩ (fun b_185 => ?_) (fun b_185 => ?_)
                    · refine r_iload5 (pc2 := 194) dX12_puts_192 rfl ?_
                      refine r_iast (z := k) (pc2 := 195) dX12_puts_194 rfl (hK_328 hS) (by decide) q rfl (by omega) ?_
                      refine r_aload0 (pc2 := 196) dX12_puts_195 rfl ?_
                      refine r_getR (pc2 := 199) dX12_puts_196 rfl fX12_89 (hK_317 hS) (hR_317_18 hS) ?_
                      refine r_iload8 (pc2 := 201) dX12_puts_199 rfl ?_
                      refine r_iload9 (pc2 := 203) dX12_puts_201 rfl ?_
                      refine r_ifeq (tgt := 210) (pc2 := 206) dX12_puts_203 rfl (by decide) ⟨by omega, by omega⟩ (fun h9 => absurd h9 (by decide)) (fun _ => ?_)
                      refine r_iconst (pc2 := 207) dX12_puts_206 rfl ?_
                      refine r_goto (tgt := 218) dX12_puts_207 (by decide) ?_
                      refine r_iast (z := 0) (pc2 := 219) dX12_puts_218 rfl (hK_329 hS) (by decide) q rfl (by omega) ?_
                      refine r_aload0 (pc2 := 220) dX12_puts_219 rfl ?_
                      refine r_getR (pc2 := 223) dX12_puts_220 rfl fX12_92 (hK_317 hS) (hR_317_19 hS) ?_
                      refine r_iload8 (pc2 := 225) dX12_puts_223 rfl ?_
                      refine r_iload9 (pc2 := 227) dX12_puts_225 rfl ?_
                      refine r_ifeq (tgt := 258) (pc2 := 230) dX12_puts_227 rfl (by decide) ⟨by omega, by omega⟩ (fun h9 => absurd h9 (by decide)) (fun _ => ?_)
                      refine r_iload2 (pc2 := 231) dX12_puts_230 rfl ?_
                      refine r_ifeq (tgt := 247) (pc2 := 234) dX12_puts_231 rfl (by decide) ⟨by omega, by omega⟩ (fun h9 => absurd h9 (by decide)) (fun _ => ?_)
                      refine r_iconst (pc2 := 235) dX12_puts_234 rfl ?_
                      refine r_aload0 (pc2 := 236) dX12_puts_235 rfl ?_
                      refine r_getR (pc2 := 239) dX12_puts_236 rfl fX12_74 (hK_317 hS) (hR_317_12 hS) ?_
                      refine r_iload1 (pc2 := 240) dX12_puts_239 rfl ?_
                      refine r_iconst (pc2 := 241) dX12_puts_240 rfl ?_
                      refine r_iadd (c := ((5 * i + 1 : Nat) : Int)) (pc2 := 242) dX12_puts_241 rfl (by omega) ?_
                      refine r_iald (z := z) (pc2 := 243) dX12_puts_242 rfl (hK_324 hS) (5 * i + 1) rfl (by omega) a2 ?_
                      refine r_isub (c := (1 - z)) (pc2 := 244) dX12_puts_243 rfl rfl ?_
                      refine r_goto (tgt := 259) dX12_puts_244 (by decide) ?_
                      refine r_iast (z := (1 - z)) (pc2 := 260) dX12_puts_259 rfl (hK_330 hS) (by decide) q rfl (by omega) ?_
                      refine r_aload0 (pc2 := 261) dX12_puts_260 rfl ?_
                      refine r_dup (pc2 := 262) dX12_puts_261 rfl rfl ?_
                      refine r_getI (z := ((s.2.2.2.1 : Nat) : Int)) (pc2 := 265) dX12_puts_262 rfl (Or.inl fX12_266) (hK_317 hS) hQ.2.2.2 ?_
                      refine r_iconst (pc2 := 266) dX12_puts_265 rfl ?_
                      refine r_iadd (c := ((s.2.2.2.1 + 1 : Nat) : Int)) (pc2 := 267) dX12_puts_266 rfl (by omega) ?_
                      refine r_putI (z := ((s.2.2.2.1 + 1 : Nat) : Int)) (pc2 := 270) dX12_puts_267 rfl fX12_266 (w12_26 _) (hK_317 hS) (by decide) ?_
                      refine r_ret dX12_puts_270 rfl ?_
                      exact absurd b_134 (by decide)
                    · refine r_iconst (pc2 := 189) dX12_puts_188 rfl ?_
                      refine r_goto (tgt := 194) dX12_puts_189 (by decide) ?_
                      refine r_iast (z := 1) (pc2 := 195) dX12_puts_194 rfl (hK_328 hS) (by decide) q rfl (by omega) ?_
                      refine r_aload0 (pc2 := 196) dX12_puts_195 rfl ?_
                      refine r_getR (pc2 := 199) dX12_puts_196 rfl fX12_89 (hK_317 hS) (hR_317_18 hS) ?_
                      refine r_iload8 (pc2 := 201) dX12_puts_199 rfl ?_
                      refine r_iload9 (pc2 := 203) dX12_puts_201 rfl ?_
                      refine r_ifeq (tgt := 210) (pc2 := 206) dX12_puts_203 rfl (by decide) ⟨by omega, by omega⟩ (fun h9 => absurd h9 (by decide)) (fun _ => ?_)
                      refine r_iconst (pc2 := 207) dX12_puts_206 rfl ?_
                      refine r_goto (tgt := 218) dX12_puts_207 (by decide) ?_
                      refine r_iast (z := 0) (pc2 := 219) dX12_puts_218 rfl (hK_329 hS) (by decide) q rfl (by omega) ?_
                      refine r_aload0 (pc2 := 220) dX12_puts_219 rfl ?_
                      refine r_getR (pc2 := 223) dX12_puts_220 rfl fX12_92 (hK_317 hS) (hR_317_19 hS) ?_
                      refine r_iload8 (pc2 := 225) dX12_puts_223 rfl ?_
                      refine r_iload9 (pc2 := 227) dX12_puts_225 rfl ?_
                      refine r_ifeq (tgt := 258) (pc2 := 230) dX12_puts_227 rfl (by decide) ⟨by omega, by omega⟩ (fun h9 => absurd h9 (by decide)) (fun _ => ?_)
                      refine r_iload2 (pc2 := 231) dX12_puts_230 rfl ?_
                      refine r_ifeq (tgt := 247) (pc2 := 234) dX12_puts_231 rfl (by decide) ⟨by omega, by omega⟩ (fun h9 => absurd h9 (by decide)) (fun _ => ?_)
                      refine r_iconst (pc2 := 235) dX12_puts_234 rfl ?_
                      refine r_aload0 (pc2 := 236) dX12_puts_235 rfl ?_
                      refine r_getR (pc2 := 239) dX12_puts_236 rfl fX12_74 (hK_317 hS) (hR_317_12 hS) ?_
                      refine r_iload1 (pc2 := 240) dX12_puts_239 rfl ?_
                      refine r_iconst (pc2 := 241) dX12_puts_240 rfl ?_
                      refine r_iadd (c := ((5 * i + 1 : Nat) : Int)) (pc2 := 242) dX12_puts_241 rfl (by omega) ?_
                      refine r_iald (z := z) (pc2 := 243) dX12_puts_242 rfl (hK_324 hS) (5 * i + 1) rfl (by omega) a2 ?_
                      refine r_isub (c := (1 - z)) (pc2 := 244) dX12_puts_243 rfl rfl ?_
                      refine r_goto (tgt := 259) dX12_puts_244 (by decide) ?_
                      refine r_iast (z := (1 - z)) (pc2 := 260) dX12_puts_259 rfl (hK_330 hS) (by decide) q rfl (by omega) ?_
                      refine r_aload0 (pc2 := 261) dX12_puts_260 rfl ?_
                      refine r_dup (pc2 := 262) dX12_puts_261 rfl rfl ?_
                      refine r_getI (z := ((s.2.2.2.1 : Nat) : Int)) (pc2 := 265) dX12_puts_262 rfl (Or.inl fX12_266) (hK_317 hS) hQ.2.2.2 ?_
                      refine r_iconst (pc2 := 266) dX12_puts_265 rfl ?_
                      refine r_iadd (c := ((s.2.2.2.1 + 1 : Nat) : Int)) (pc2 := 267) dX12_puts_266 rfl (by omega) ?_
                      refine r_putI (z := ((s.2.2.2.1 + 1 : Nat) : Int)) (pc2 := 270) dX12_puts_267 rfl fX12_266 (w12_26 _) (hK_317 hS) (by decide) ?_
                      refine r_ret dX12_puts_270 rfl ?_
                      exact absurd b_134 (by decide)
                  · refine r_iconst (pc2 := 175) dX12_puts_174 rfl ?_
                    refine r_goto (tgt := 194) dX12_puts_175 (by decide) ?_
                    refine r_iast (z := 2) (pc2 := 195) dX12_puts_194 rfl (hK_328 hS) (by decide) q rfl (by omega) ?_
                    refine r_aload0 (pc2 := 196) dX12_puts_195 rfl ?_
                    refine r_getR (pc2 := 199) dX12_puts_196 rfl fX12_89 (hK_317 hS) (hR_317_18 hS) ?_
                    refine r_iload8 (pc2 := 201) dX12_puts_199 rfl ?_
                    refine r_iload9 (pc2 := 203) dX12_puts_201 rfl ?_
                    refine r_ifeq (tgt := 210) (pc2 := 206) dX12_puts_203 rfl (by decide) ⟨by omega, by omega⟩ (fun h9 => absurd h9 (by decide)) (fun _ => ?_)
                    refine r_iconst (pc2 := 207) dX12_puts_206 rfl ?_
                    refine r_goto (tgt := 218) dX12_puts_207 (by decide) ?_
                    refine r_iast (z := 0) (pc2 := 219) dX12_puts_218 rfl (hK_329 hS) (by decide) q rfl (by omega) ?_
                    refine r_aload0 (pc2 := 220) dX12_puts_219 rfl ?_
                    refine r_getR (pc2 := 223) dX12_puts_220 rfl fX12_92 (hK_317 hS) (hR_317_19 hS) ?_
                    refine r_iload8 (pc2 := 225) dX12_puts_223 rfl ?_
                    refine r_iload9 (pc2 := 227) dX12_puts_225 rfl ?_
                    refine r_ifeq (tgt := 258) (pc2 := 230) dX12_puts_227 rfl (by decide) ⟨by omega, by omega⟩ (fun h9 => absurd h9 (by decide)) (fun _ => ?_)
                    refine r_iload2 (pc2 := 231) dX12_puts_230 rfl ?_
                    refine r_ifeq (tgt := 247) (pc2 := 234) dX12_puts_231 rfl (by decide) ⟨by omega, by omega⟩ (fun h9 => absurd h9 (by decide)) (fun _ => ?_)
                    refine r_iconst (pc2 := 235) dX12_puts_234 rfl ?_
                    refine r_aload0 (pc2 := 236) dX12_puts_235 rfl ?_
                    refine r_getR (pc2 := 239) dX12_puts_236 rfl fX12_74 (hK_317 hS) (hR_317_12 hS) ?_
                    refine r_iload1 (pc2 := 240) dX12_puts_239 rfl ?_
                    refine r_iconst (pc2 := 241) dX12_puts_240 rfl ?_
                    refine r_iadd (c := ((5 * i + 1 : Nat) : Int)) (pc2 := 242) dX12_puts_241 rfl (by omega) ?_
                    refine r_iald (z := z) (pc2 := 243) dX12_puts_242 rfl (hK_324 hS) (5 * i + 1) rfl (by omega) a2 ?_
                    refine r_isub (c := (1 - z)) (pc2 := 244) dX12_puts_243 rfl rfl ?_
                    refine r_goto (tgt := 259) dX12_puts_244 (by decide) ?_
                    refine r_iast (z := (1 - z)) (pc2 := 260) dX12_puts_259 rfl (hK_330 hS) (by decide) q rfl (by omega) ?_
                    refine r_aload0 (pc2 := 261) dX12_puts_260 rfl ?_
                    refine r_dup (pc2 := 262) dX12_puts_261 rfl rfl ?_
                    refine r_getI (z := ((s.2.2.2.1 : Nat) : Int)) (pc2 := 265) dX12_puts_262 rfl (Or.inl fX12_266) (hK_317 hS) hQ.2.2.2 ?_
                    refine r_iconst (pc2 := 266) dX12_puts_265 rfl ?_
                    refine r_iadd (c := ((s.2.2.2.1 + 1 : Nat) : Int)) (pc2 := 267) dX12_puts_266 rfl (by omega) ?_
                    refine r_putI (z := ((s.2.2.2.1 + 1 : Nat) : Int)) (pc2 := 270) dX12_puts_267 rfl fX12_266 (w12_26 _) (hK_317 hS) (by decide) ?_
                    refine r_ret dX12_puts_270 rfl ?_
                    exact absurd b_134 (by decide)
            · refine r_ret dX12_puts_137 rfl ?_
              refine ⟨rfl, ?_, frQ.rf.I (by unfold okQ; omega)⟩
              unfold qPut
              rw [← hq, if_neg (show ¬ ¬ (0 ≤ X ∧ X < 13 ∧ 0 ≤ Y ∧ Y < 12) by omega), if_pos (show ¬ s.1.1.1 q = 0 by omega)]
              exact hQ.re
        · refine r_aload0 (pc2 := 74) dX12_puts_73 rfl ?_
          refine r_iconst (pc2 := 75) dX12_puts_74 rfl ?_
          refine r_putI (z := 1) (pc2 := 78) dX12_puts_75 rfl fX12_260 (w12_24 _) (hK_317 hS) (by decide) ?_
          refine r_ret dX12_puts_78 rfl ?_
          refine ⟨rfl, ?_, frQ.rf.I (by unfold okQ; omega)⟩
          unfold qPut
          rw [if_pos (show ¬ (0 ≤ X ∧ X < 13 ∧ 0 ≤ Y ∧ Y < 12) by omega)]
          exact hQ.re
