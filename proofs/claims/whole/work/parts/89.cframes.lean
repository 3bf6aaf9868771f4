/-! the class's frames -/
theorem CB.of {M M2 : pM} {D : bD} {sh : Nat → Int} {ix : Nat → Nat} (h : CB M D sh ix) (hf : ∀ a, 20 ≤ a → a ≤ 28 → M2.2.1 a = M.2.1 a) (hi : ∀ k, k = 9 ∨ k = 10 → M2.2.1 19 k = M.2.1 19 k) (hj : M2.2.2 19 11 = M.2.2 19 11) : CB M2 D sh ix := by
  unfold CB at h ⊢
  rw [hf 20 (by omega) (by omega), hf 21 (by omega) (by omega), hf 22 (by omega) (by omega), hf 25 (by omega) (by omega), hf 26 (by omega) (by omega), hf 27 (by omega) (by omega), hf 28 (by omega) (by omega), hi 9 (by omega), hi 10 (by omega), hj]
  exact h
def CQ (M : pM) (s : qS) (ix : Nat → Nat) : Prop := CB M s.1 s.2.1 ix ∧ M.2.1 29 13 = ((s.2.2.1 : Nat) : Int) ∧ M.2.1 29 14 = ((s.2.2.2.1 : Nat) : Int)
def FT (M : pM) (t i st e tl : Nat) (sx sy dx dy m : Int) : Prop := M.2.1 29 12 = ((t : Nat) : Int) ∧ M.2.1 30 t = ((i : Nat) : Int) ∧ M.2.1 31 t = ((st : Nat) : Int) ∧ M.2.1 32 t = ((e : Nat) : Int) ∧ M.2.1 33 t = ((tl : Nat) : Int) ∧ M.2.1 34 t = sx ∧ M.2.1 35 t = sy ∧ M.2.1 36 t = dx ∧ M.2.1 37 t = dy ∧ M.2.1 38 t = m
/-- only frames above T change -/
def okG (T a k : Nat) : Prop := (30 ≤ a ∧ a ≤ 38 ∧ T < k) ∨ (a = 29 ∧ k = 12)
def frG (T : Nat) (M M2 : pM) : Prop := M2.1 = M.1 ∧ (∀ a k, ¬ okG T a k → M2.2.1 a k = M.2.1 a k) ∧ M2.2.2 = M.2.2
theorem frG.rf {T : Nat} {M : pM} : frG T M M := ⟨rfl, fun _ _ _ => rfl, rfl⟩
theorem frG.tr {T : Nat} {M M1 M2 : pM} (h : frG T M M1) (h2 : frG T M1 M2) : frG T M M2 := ⟨h2.1.trans h.1, fun a k q => (h2.2.1 a k q).trans (h.2.1 a k q), h2.2.2.trans h.2.2⟩
theorem frG.I {T : Nat} {M M1 : pM} {a k : Nat} {z : Int} (h : frG T M M1) (ho : okG T a k) : frG T M (pI M1 a k z) := ⟨h.1, fun b j q => by
  by_cases e : b = a
  · subst e
    by_cases e2 : j = k
    · subst e2; exact absurd ho q
    · rw [pI_nk e2]; exact h.2.1 b j q
  · rw [pI_ne e]; exact h.2.1 b j q, h.2.2⟩
theorem frG.ok {T : Nat} {M M2 : pM} (h : frG T M M2) (hS : sOk M.1) : sOk M2.1 := by rw [h.1]; exact hS
/-- what a stretch of painting may change, where frame T stays -/
def okC (T a k : Nat) : Prop := (a = 29 ∧ 12 ≤ k ∧ k ≤ 14) ∨ (30 ≤ a ∧ a ≤ 38 ∧ T < k) ∨ (a = 30 ∧ k = T) ∨ (20 ≤ a ∧ a ≤ 22) ∨ (25 ≤ a ∧ a ≤ 28) ∨ (a = 19 ∧ (k = 9 ∨ k = 10))
def frC (T : Nat) (M M2 : pM) : Prop := M2.1 = M.1 ∧ (∀ a k, ¬ okC T a k → M2.2.1 a k = M.2.1 a k) ∧ ∀ a k, ¬ (a = 19 ∧ k = 11) → M2.2.2 a k = M.2.2 a k
theorem frC.rf {T : Nat} {M : pM} : frC T M M := ⟨rfl, fun _ _ _ => rfl, fun _ _ _ => rfl⟩
theorem frC.tr {T : Nat} {M M1 M2 : pM} (h : frC T M M1) (h2 : frC T M1 M2) : frC T M M2 := ⟨h2.1.trans h.1, fun a k q => (h2.2.1 a k q).trans (h.2.1 a k q), fun a k q => (h2.2.2 a k q).trans (h.2.2 a k q)⟩
theorem frC.I {T : Nat} {M M1 : pM} {a k : Nat} {z : Int} (h : frC T M M1) (ho : okC T a k) : frC T M (pI M1 a k z) := ⟨h.1, fun b j q => by
  by_cases e : b = a
  · subst e
    by_cases e2 : j = k
    · subst e2; exact absurd ho q
    · rw [pI_nk e2]; exact h.2.1 b j q
  · rw [pI_ne e]; exact h.2.1 b j q, h.2.2⟩
theorem frC.ok {T : Nat} {M M2 : pM} (h : frC T M M2) (hS : sOk M.1) : sOk M2.1 := by rw [h.1]; exact hS
theorem frC.up {T : Nat} {M M2 : pM} (h : frC (T + 1) M M2) : frC T M M2 := ⟨h.1, fun a k q => h.2.1 a k (fun c => q (by unfold okC at *; omega)), h.2.2⟩
theorem frG.c {T : Nat} {M M2 : pM} (h : frG T M M2) : frC T M M2 := ⟨h.1, fun a k q => h.2.1 a k (fun c => q (by unfold okC; unfold okG at c; omega)), fun a k _ => by rw [h.2.2]⟩
theorem frA.c {T : Nat} {M M2 : pM} (h : frA M M2) : frC T M M2 := ⟨h.1, fun a k q => h.2.1 a k (fun c => q (by unfold okC; unfold okA at c; omega)), h.2.2⟩
theorem CG.fc {T : Nat} {M M2 : pM} {G : gPr} (h : CG M G) (hf : frC T M M2) : CG M2 G := by
  have e : ∀ a, 9 ≤ a → a ≤ 18 → M2.2.1 a = M.2.1 a := fun a a1 a2 => funext (fun k => hf.2.1 a k (by unfold okC; omega))
  have e2 : M2.2.2 16 = M.2.2 16 := funext (fun k => hf.2.2 16 k (by omega))
  unfold CG at h ⊢
  rw [e 9 (by omega) (by omega), e 10 (by omega) (by omega), e 11 (by omega) (by omega), e 12 (by omega) (by omega), e 13 (by omega) (by omega), e 14 (by omega) (by omega), e 15 (by omega) (by omega), e 17 (by omega) (by omega), e 18 (by omega) (by omega), e2]
  exact h
theorem CQ.fg {T : Nat} {M M2 : pM} {s : qS} {ix : Nat → Nat} (h : CQ M s ix) (hf : frG T M M2) : CQ M2 s ix := ⟨h.1.of (fun a a1 a2 => funext (fun k => hf.2.1 a k (by unfold okG; omega))) (fun k hk => hf.2.1 19 k (by unfold okG; omega)) (by rw [hf.2.2]), by rw [hf.2.1 29 13 (by unfold okG; omega)]; exact h.2.1, by rw [hf.2.1 29 14 (by unfold okG; omega)]; exact h.2.2⟩
/-- frame T as it was, but for where it stands -/
theorem FT.fc {M M2 : pM} {t i i2 st e tl : Nat} {sx sy dx dy m : Int} (h : FT M t i st e tl sx sy dx dy m) (hf : frC t M M2) (ht : M2.2.1 29 12 = ((t : Nat) : Int)) (hi : M2.2.1 30 t = ((i2 : Nat) : Int)) : FT M2 t i2 st e tl sx sy dx dy m := by
  obtain ⟨h1, h2, h3, h4, h5, h6, h7, h8, h9, h10⟩ := h
  have e9 : ∀ a, 31 ≤ a → a ≤ 38 → M2.2.1 a t = M.2.1 a t := fun a a1 a2 => hf.2.1 a t (by unfold okC; omega)
  exact ⟨ht, hi, by rw [e9 31 (by omega) (by omega)]; exact h3, by rw [e9 32 (by omega) (by omega)]; exact h4, by rw [e9 33 (by omega) (by omega)]; exact h5, by rw [e9 34 (by omega) (by omega)]; exact h6, by rw [e9 35 (by omega) (by omega)]; exact h7, by rw [e9 36 (by omega) (by omega)]; exact h8, by rw [e9 37 (by omega) (by omega)]; exact h9, by rw [e9 38 (by omega) (by omega)]; exact h10⟩
set_option maxHeartbeats 4000000 in
theorem c_X2_turned {d : Nat} {M : pM} {t : Nat} {z m : Int} (hS : sOk M.1) (h12 : M.2.1 29 12 = ((t : Nat) : Int)) (ht : t < 156) (h38 : M.2.1 38 t = m) (hm : m = 0 ∨ m = 1) : Ct (d + 1) 0 0 yX2_turned [.ref 29, .int (iI z)] M (fun v M2 => v = some (.int (iI (tn m z))) ∧ M2 = M) := by
  refine ct_in (d := d) kX2_turned rfl (by decide) (Nat.le_of_ble_eq_true rfl) (by decide) ?_
  show Go (Ct d) _ yX2_turned cX2_turned (some .int) 0 0 0 [some (.ref 29), some (.int (iI z))] [] M
  refine r_aload0 (pc2 := 1) dX2_turned_0 rfl ?_
  refine r_getR (pc2 := 4) dX2_turned_1 rfl fX2_36 (hK_29 hS) (hR_29_10 hS) ?_
  refine r_aload0 (pc2 := 5) dX2_turned_4 rfl ?_
  refine r_getI (z := ((t : Nat) : Int)) (pc2 := 8) dX2_turned_5 rfl (Or.inl fX2_51) (hK_29 hS) h12 ?_
  refine r_zald (z := m) (pc2 := 9) dX2_turned_8 rfl (hK_38 hS) t rfl (by omega) h38 ?_
  refine r_ifeq (tgt := 17) (pc2 := 12) dX2_turned_9 rfl (by decide) ⟨by omega, by omega⟩ (fun b_9 => ?_) (fun b_9 => ?_)
  · refine r_iload1 (pc2 := 18) dX2_turned_17 rfl ?_
    refine r_ireti dX2_turned_18 rfl ?_
    exact ⟨by unfold tn; rw [if_neg (by omega)], rfl⟩
  · refine r_iload1 (pc2 := 13) dX2_turned_12 rfl ?_
    refine r_ineg (c := (-z)) (pc2 := 14) dX2_turned_13 rfl rfl ?_
    refine r_goto (tgt := 18) dX2_turned_14 (by decide) ?_
    refine r_ireti dX2_turned_18 rfl ?_
    exact ⟨by unfold tn; rw [if_pos (by omega)], rfl⟩
theorem pI_n9 {M : pM} {a k b j : Nat} {z : Int} (h : ¬ (b = a ∧ j = k)) : (pI M a k z).2.1 b j = M.2.1 b j := by
  by_cases e : b = a
  · subst e; exact pI_nk (fun e2 => h ⟨rfl, e2⟩)
  · rw [pI_ne e]
set_option maxHeartbeats 4000000 in
theorem c_X2_beginFrame {d : Nat} {M : pM} {t st e tl : Nat} {dx dy m : Int} (hS : sOk M.1) (h12 : M.2.1 29 12 = ((t + 1 : Nat) : Int)) (ht : t < 155) (h36 : M.2.1 36 t = dx) (h37 : M.2.1 37 t = dy) (h38 : M.2.1 38 t = m) (hm : m = 0 ∨ m = 1) : Ct (d + 1) 0 0 yX2_beginFrame [.ref 29, .int (iI ((st : Nat) : Int)), .int (iI ((e : Nat) : Int)), .int (iI ((tl : Nat) : Int))] M (fun v M2 => v = none ∧ FT M2 (t + 1) st st e tl 0 0 dx dy m ∧ frG t M M2) := by
  refine ct_in (d := d) kX2_beginFrame rfl (by decide) (Nat.le_of_ble_eq_true rfl) (by decide) ?_
  show Go (Ct d) _ yX2_beginFrame cX2_beginFrame none 0 0 0 [some (.ref 29), some (.int (iI ((st : Nat) : Int))), some (.int (iI ((e : Nat) : Int))), some (.int (iI ((tl : Nat) : Int)))] [] M
  refine r_aload0 (pc2 := 1) dX2_beginFrame_0 rfl ?_
  refine r_getR (pc2 := 4) dX2_beginFrame_1 rfl fX2_11 (hK_29 hS) (hR_29_2 hS) ?_
  refine r_aload0 (pc2 := 5) dX2_beginFrame_4 rfl ?_
  refine r_getI (z := ((t + 1 : Nat) : Int)) (pc2 := 8) dX2_beginFrame_5 rfl (Or.inl fX2_51) (hK_29 hS) h12 ?_
  refine r_iload1 (pc2 := 9) dX2_beginFrame_8 rfl ?_
  refine r_iast (z := ((st : Nat) : Int)) (pc2 := 10) dX2_beginFrame_9 rfl (hK_30 hS) (by decide) (t + 1) rfl (by omega) ?_
  refine r_aload0 (pc2 := 11) dX2_beginFrame_10 rfl ?_
  refine r_getR (pc2 := 14) dX2_beginFrame_11 rfl fX2_15 (hK_29 hS) (hR_29_3 hS) ?_
  refine r_aload0 (pc2 := 15) dX2_beginFrame_14 rfl ?_
  refine r_getI (z := ((t + 1 : Nat) : Int)) (pc2 := 18) dX2_beginFrame_15 rfl (Or.inl fX2_51) (hK_29 hS) h12 ?_
  refine r_iload1 (pc2 := 19) dX2_beginFrame_18 rfl ?_
  refine r_iast (z := ((st : Nat) : Int)) (pc2 := 20) dX2_beginFrame_19 rfl (hK_31 hS) (by decide) (t + 1) rfl (by omega) ?_
  refine r_aload0 (pc2 := 21) dX2_beginFrame_20 rfl ?_
  refine r_getR (pc2 := 24) dX2_beginFrame_21 rfl fX2_18 (hK_29 hS) (hR_29_4 hS) ?_
  refine r_aload0 (pc2 := 25) dX2_beginFrame_24 rfl ?_
  refine r_getI (z := ((t + 1 : Nat) : Int)) (pc2 := 28) dX2_beginFrame_25 rfl (Or.inl fX2_51) (hK_29 hS) h12 ?_
  refine r_iload2 (pc2 := 29) dX2_beginFrame_28 rfl ?_
  refine r_iast (z := ((e : Nat) : Int)) (pc2 := 30) dX2_beginFrame_29 rfl (hK_32 hS) (by decide) (t + 1) rfl (by omega) ?_
  refine r_aload0 (pc2 := 31) dX2_beginFrame_30 rfl ?_
  refine r_getR (pc2 := 34) dX2_beginFrame_31 rfl fX2_21 (hK_29 hS) (hR_29_5 hS) ?_
  refine r_aload0 (pc2 := 35) dX2_beginFrame_34 rfl ?_
  refine r_getI (z := ((t + 1 : Nat) : Int)) (pc2 := 38) dX2_beginFrame_35 rfl (Or.inl fX2_51) (hK_29 hS) h12 ?_
  refine r_iload3 (pc2 := 39) dX2_beginFrame_38 rfl ?_
  refine r_iast (z := ((tl : Nat) : Int)) (pc2 := 40) dX2_beginFrame_39 rfl (hK_33 hS) (by decide) (t + 1) rfl (by omega) ?_
  refine r_aload0 (pc2 := 41) dX2_beginFrame_40 rfl ?_
  refine r_getR (pc2 := 44) dX2_beginFrame_41 rfl fX2_24 (hK_29 hS) (hR_29_6 hS) ?_
  refine r_aload0 (pc2 := 45) dX2_beginFrame_44 rfl ?_
  refine r_getI (z := ((t + 1 : Nat) : Int)) (pc2 := 48) dX2_beginFrame_45 rfl (Or.inl fX2_51) (hK_29 hS) h12 ?_
  refine r_iconst (pc2 := 49) dX2_beginFrame_48 rfl ?_
  refine r_iast (z := 0) (pc2 := 50) dX2_beginFrame_49 rfl (hK_34 hS) (by decide) (t + 1) rfl (by omega) ?_
  refine r_aload0 (pc2 := 51) dX2_beginFrame_50 rfl ?_
  refine r_getR (pc2 := 54) dX2_beginFrame_51 rfl fX2_27 (hK_29 hS) (hR_29_7 hS) ?_
  refine r_aload0 (pc2 := 55) dX2_beginFrame_54 rfl ?_
  refine r_getI (z := ((t + 1 : Nat) : Int)) (pc2 := 58) dX2_beginFrame_55 rfl (Or.inl fX2_51) (hK_29 hS) h12 ?_
  refine r_iconst (pc2 := 59) dX2_beginFrame_58 rfl ?_
  refine r_iast (z := 0) (pc2 := 60) dX2_beginFrame_59 rfl (hK_35 hS) (by decide) (t + 1) rfl (by omega) ?_
  refine r_aload0 (pc2 := 61) dX2_beginFrame_60 rfl ?_
  refine r_getI (z := ((t + 1 : Nat) : Int)) (pc2 := 64) dX2_beginFrame_61 rfl (Or.inl fX2_51) (hK_29 hS) h12 ?_
  refine r_ifne (tgt := 100) (pc2 := 67) dX2_beginFrame_64 rfl (by decide) ⟨by omega, by omega⟩ (fun b_64 => ?_) (fun b_64 => ?_)
  · refine r_aload0 (pc2 := 101) dX2_beginFrame_100 rfl ?_
    refine r_getR (pc2 := 104) dX2_beginFrame_101 rfl fX2_30 (hK_29 hS) (hR_29_8 hS) ?_
    refine r_aload0 (pc2 := 105) dX2_beginFrame_104 rfl ?_
    refine r_getI (z := ((t + 1 : Nat) : Int)) (pc2 := 108) dX2_beginFrame_105 rfl (Or.inl fX2_51) (hK_29 hS) h12 ?_
    refine r_aload0 (pc2 := 109) dX2_beginFrame_108 rfl ?_
    refine r_getR (pc2 := 112) dX2_beginFrame_109 rfl fX2_30 (hK_29 hS) (hR_29_8 hS) ?_
    refine r_aload0 (pc2 := 113) dX2_beginFrame_112 rfl ?_
    refine r_getI (z := ((t + 1 : Nat) : Int)) (pc2 := 116) dX2_beginFrame_113 rfl (Or.inl fX2_51) (hK_29 hS) h12 ?_
    refine r_iconst (pc2 := 117) dX2_beginFrame_116 rfl ?_
    refine r_isub (c := ((t : Nat) : Int)) (pc2 := 118) dX2_beginFrame_117 rfl (by omega) ?_
    refine r_iald (z := dx) (pc2 := 119) dX2_beginFrame_118 rfl (hK_36 hS) t rfl (by omega) h36 ?_
    refine r_iast (z := dx) (pc2 := 120) dX2_beginFrame_119 rfl (hK_36 hS) (by decide) (t + 1) rfl (by omega) ?_
    refine r_aload0 (pc2 := 121) dX2_beginFrame_120 rfl ?_
    refine r_getR (pc2 := 124) dX2_beginFrame_121 rfl fX2_33 (hK_29 hS) (hR_29_9 hS) ?_
    refine r_aload0 (pc2 := 125) dX2_beginFrame_124 rfl ?_
    refine r_getI (z := ((t + 1 : Nat) : Int)) (pc2 := 128) dX2_beginFrame_125 rfl (Or.inl fX2_51) (hK_29 hS) h12 ?_
    refine r_aload0 (pc2 := 129) dX2_beginFrame_128 rfl ?_
    refine r_getR (pc2 := 132) dX2_beginFrame_129 rfl fX2_33 (hK_29 hS) (hR_29_9 hS) ?_
    refine r_aload0 (pc2 := 133) dX2_beginFrame_132 rfl ?_
    refine r_getI (z := ((t + 1 : Nat) : Int)) (pc2 := 136) dX2_beginFrame_133 rfl (Or.inl fX2_51) (hK_29 hS) h12 ?_
    refine r_iconst (pc2 := 137) dX2_beginFrame_136 rfl ?_
    refine r_isub (c := ((t : Nat) : Int)) (pc2 := 138) dX2_beginFrame_137 rfl (by omega) ?_
    refine r_iald (z := dy) (pc2 := 139) dX2_beginFrame_138 rfl (hK_37 hS) t rfl (by omega) h37 ?_
    refine r_iast (z := dy) (pc2 := 140) dX2_beginFrame_139 rfl (hK_37 hS) (by decide) (t + 1) rfl (by omega) ?_
    refine r_aload0 (pc2 := 141) dX2_beginFrame_140 rfl ?_
    refine r_getR (pc2 := 144) dX2_beginFrame_141 rfl fX2_36 (hK_29 hS) (hR_29_10 hS) ?_
    refine r_aload0 (pc2 := 145) dX2_beginFrame_144 rfl ?_
    refine r_getI (z := ((t + 1 : Nat) : Int)) (pc2 := 148) dX2_beginFrame_145 rfl (Or.inl fX2_51) (hK_29 hS) h12 ?_
    refine r_aload0 (pc2 := 149) dX2_beginFrame_148 rfl ?_
    refine r_getR (pc2 := 152) dX2_beginFrame_149 rfl fX2_36 (hK_29 hS) (hR_29_10 hS) ?_
    refine r_aload0 (pc2 := 153) dX2_beginFrame_152 rfl ?_
    refine r_getI (z := ((t + 1 : Nat) : Int)) (pc2 := 156) dX2_beginFrame_153 rfl (Or.inl fX2_51) (hK_29 hS) h12 ?_
    refine r_iconst (pc2 := 157) dX2_beginFrame_156 rfl ?_
    refine r_isub (c := ((t : Nat) : Int)) (pc2 := 158) dX2_beginFrame_157 rfl (by omega) ?_
    refine r_zald (z := m) (pc2 := 159) dX2_beginFrame_158 rfl (hK_38 hS) t rfl (by omega) h38 ?_
    refine r_zast (z := m) (pc2 := 160) dX2_beginFrame_159 rfl (hK_38 hS) (by decide) (t + 1) rfl (by omega) (by omega) ?_
    refine r_ret dX2_beginFrame_160 rfl ?_
    refine ⟨rfl, ⟨?_, ?_, ?_, ?_, ?_, ?_, ?_, ?_, ?_, ?_⟩, (((((((((frG.rf.I (by unfold okG; omega)).I (by unfold okG; omega)).I (by unfold okG; omega)).I (by unfold okG; omega)).I (by unfold okG; omega)).I (by unfold okG; omega)).I (by unfold okG; omega)).I (by unfold okG; omega)).I (by unfold okG; omega))⟩
    · (repeat (first | rw [pI_at] | rw [pI_ne (by decide)] | rw [pI_nk (by omega)])); exact h12
    · (repeat (first | rw [pI_at] | rw [pI_ne (by decide)] | rw [pI_nk (by omega)])); all_goals (try rfl)
    · (repeat (first | rw [pI_at] | rw [pI_ne (by decide)] | rw [pI_nk (by omega)])); all_goals (try rfl)
    · (repeat (first | rw [pI_at] | rw [pI_ne (by decide)] | rw [pI_nk (by omega)])); all_goals (try rfl)
    · (repeat (first | rw [pI_at] | rw [pI_ne (by decide)] | rw [pI_nk (by omega)])); all_goals (try rfl)
    · (repeat (first | rw [pI_at] | rw [pI_ne (by decide)] | rw [pI_nk (by omega)])); all_goals (try rfl)
    · (repeat (first | rw [pI_at] | rw [pI_ne (by decide)] | rw [pI_nk (by omega)])); all_goals (try rfl)
    · (repeat (first | rw [pI_at] | rw [pI_ne (by decide)] | rw [pI_nk (by omega)])); all_goals (try rfl)
    · (repeat (first | rw [pI_at] | rw [pI_ne (by decide)] | rw [pI_nk (by omega)])); all_goals (try rfl)
    · (repeat (first | rw [pI_at] | rw [pI_ne (by decide)] | rw [pI_nk (by omega)])); all_goals (try rfl)
  · refine r_aload0 (pc2 := 68) dX2_beginFrame_67 rfl ?_
    refine r_getR (pc2 := 71) dX2_beginFrame_68 rfl fX2_30 (hK_29 hS) (hR_29_8 hS) ?_
    refine r_aload0 (pc2 := 72) dX2_beginFrame_71 rfl ?_
    refine r_getI (z := ((t + 1 : Nat) : Int)) (pc2 := 75) dX2_beginFrame_72 rfl (Or.inl fX2_51) (hK_29 hS) h12 ?_
    refine r_iconst (pc2 := 76) dX2_beginFrame_75 rfl ?_
    refine r_iast (z := 0) (pc2 := 77) dX2_beginFrame_76 rfl (hK_36 hS) (by decide) (t + 1) rfl (by omega) ?_
    refine r_aload0 (pc2 := 78) dX2_beginFrame_77 rfl ?_
    refine r_getR (pc2 := 81) dX2_beginFrame_78 rfl fX2_33 (hK_29 hS) (hR_29_9 hS) ?_
    refine r_aload0 (pc2 := 82) dX2_beginFrame_81 rfl ?_
    refine r_getI (z := ((t + 1 : Nat) : Int)) (pc2 := 85) dX2_beginFrame_82 rfl (Or.inl fX2_51) (hK_29 hS) h12 ?_
    refine r_iconst (pc2 := 86) dX2_beginFrame_85 rfl ?_
    refine r_iast (z := 0) (pc2 := 87) dX2_beginFrame_86 rfl (hK_37 hS) (by decide) (t + 1) rfl (by omega) ?_
    refine r_aload0 (pc2 := 88) dX2_beginFrame_87 rfl ?_
    refine r_getR (pc2 := 91) dX2_beginFrame_88 rfl fX2_36 (hK_29 hS) (hR_29_10 hS) ?_
    refine r_aload0 (pc2 := 92) dX2_beginFrame_91 rfl ?_
    refine r_getI (z := ((t + 1 : Nat) : Int)) (pc2 := 95) dX2_beginFrame_92 rfl (Or.inl fX2_51) (hK_29 hS) h12 ?_
    refine r_iconst (pc2 := 96) dX2_beginFrame_95 rfl ?_
    refine r_zast (z := 0) (pc2 := 97) dX2_beginFrame_96 rfl (hK_38 hS) (by decide) (t + 1) rfl (by omega) (by omega) ?_
    refine r_goto (tgt := 160) dX2_beginFrame_97 (by decide) ?_
    refine r_ret dX2_beginFrame_160 rfl ?_
    exact absurd b_64 (by omega)
set_option maxHeartbeats 4000000 in
theorem c_X2_beginFrame0 {d : Nat} {M : pM} {e : Nat} (hS : sOk M.1) (h12 : M.2.1 29 12 = 0) : Ct (d + 1) 0 0 yX2_beginFrame [.ref 29, .int (iI 0), .int (iI ((e : Nat) : Int)), .int (iI 1)] M (fun v M2 => v = none ∧ FT M2 0 0 0 e 1 0 0 0 0 0 ∧ M2.1 = M.1 ∧ (∀ a k, ¬ (30 ≤ a ∧ a ≤ 38) → M2.2.1 a k = M.2.1 a k) ∧ M2.2.2 = M.2.2) := by
  refine ct_in (d := d) kX2_beginFrame rfl (by decide) (Nat.le_of_ble_eq_true rfl) (by decide) ?_
  show Go (Ct d) _ yX2_beginFrame cX2_beginFrame none 0 0 0 [some (.ref 29), some (.int (iI 0)), some (.int (iI ((e : Nat) : Int))), some (.int (iI 1))] [] M
  refine r_aload0 (pc2 := 1) dX2_beginFrame_0 rfl ?_
  refine r_getR (pc2 := 4) dX2_beginFrame_1 rfl fX2_11 (hK_29 hS) (hR_29_2 hS) ?_
  refine r_aload0 (pc2 := 5) dX2_beginFrame_4 rfl ?_
  refine r_getI (z := 0) (pc2 := 8) dX2_beginFrame_5 rfl (Or.inl fX2_51) (hK_29 hS) h12 ?_
  refine r_iload1 (pc2 := 9) dX2_beginFrame_8 rfl ?_
  refine r_iast (z := 0) (pc2 := 10) dX2_beginFrame_9 rfl (hK_30 hS) (by decide) 0 rfl (by omega) ?_
  refine r_aload0 (pc2 := 11) dX2_beginFrame_10 rfl ?_
  refine r_getR (pc2 := 14) dX2_beginFrame_11 rfl fX2_15 (hK_29 hS) (hR_29_3 hS) ?_
  refine r_aload0 (pc2 := 15) dX2_beginFrame_14 rfl ?_
  refine r_getI (z := 0) (pc2 := 18) dX2_beginFrame_15 rfl (Or.inl fX2_51) (hK_29 hS) h12 ?_
  refine r_iload1 (pc2 := 19) dX2_beginFrame_18 rfl ?_
  refine r_iast (z := 0) (pc2 := 20) dX2_beginFrame_19 rfl (hK_31 hS) (by decide) 0 rfl (by omega) ?_
  refine r_aload0 (pc2 := 21) dX2_beginFrame_20 rfl ?_
  refine r_getR (pc2 := 24) dX2_beginFrame_21 rfl fX2_18 (hK_29 hS) (hR_29_4 hS) ?_
  refine r_aload0 (pc2 := 25) dX2_beginFrame_24 rfl ?_
  refine r_getI (z := 0) (pc2 := 28) dX2_beginFrame_25 rfl (Or.inl fX2_51) (hK_29 hS) h12 ?_
  refine r_iload2 (pc2 := 29) dX2_beginFrame_28 rfl ?_
  refine r_iast (z := ((e : Nat) : Int)) (pc2 := 30) dX2_beginFrame_29 rfl (hK_32 hS) (by decide) 0 rfl (by omega) ?_
  refine r_aload0 (pc2 := 31) dX2_beginFrame_30 rfl ?_
  refine r_getR (pc2 := 34) dX2_beginFrame_31 rfl fX2_21 (hK_29 hS) (hR_29_5 hS) ?_
  refine r_aload0 (pc2 := 35) dX2_beginFrame_34 rfl ?_
  refine r_getI (z := 0) (pc2 := 38) dX2_beginFrame_35 rfl (Or.inl fX2_51) (hK_29 hS) h12 ?_
  refine r_iload3 (pc2 := 39) dX2_beginFrame_38 rfl ?_
  refine r_iast (z := 1) (pc2 := 40) dX2_beginFrame_39 rfl (hK_33 hS) (by decide) 0 rfl (by omega) ?_
  refine r_aload0 (pc2 := 41) dX2_beginFrame_40 rfl ?_
  refine r_getR (pc2 := 44) dX2_beginFrame_41 rfl fX2_24 (hK_29 hS) (hR_29_6 hS) ?_
  refine r_aload0 (pc2 := 45) dX2_beginFrame_44 rfl ?_
  refine r_getI (z := 0) (pc2 := 48) dX2_beginFrame_45 rfl (Or.inl fX2_51) (hK_29 hS) h12 ?_
  refine r_iconst (pc2 := 49) dX2_beginFrame_48 rfl ?_
  refine r_iast (z := 0) (pc2 := 50) dX2_beginFrame_49 rfl (hK_34 hS) (by decide) 0 rfl (by omega) ?_
  refine r_aload0 (pc2 := 51) dX2_beginFrame_50 rfl ?_
  refine r_getR (pc2 := 54) dX2_beginFrame_51 rfl fX2_27 (hK_29 hS) (hR_29_7 hS) ?_
  refine r_aload0 (pc2 := 55) dX2_beginFrame_54 rfl ?_
  refine r_getI (z := 0) (pc2 := 58) dX2_beginFrame_55 rfl (Or.inl fX2_51) (hK_29 hS) h12 ?_
  refine r_iconst (pc2 := 59) dX2_beginFrame_58 rfl ?_
  refine r_iast (z := 0) (pc2 := 60) dX2_beginFrame_59 rfl (hK_35 hS) (by decide) 0 rfl (by omega) ?_
  refine r_aload0 (pc2 := 61) dX2_beginFrame_60 rfl ?_
  refine r_getI (z := 0) (pc2 := 64) dX2_beginFrame_61 rfl (Or.inl fX2_51) (hK_29 hS) h12 ?_
  refine r_ifne (tgt := 100) (pc2 := 67) dX2_beginFrame_64 rfl (by decide) ⟨by omega, by omega⟩ (fun h9 => absurd h9 (by decide)) (fun _ => ?_)
  refine r_aload0 (pc2 := 68) dX2_beginFrame_67 rfl ?_
  refine r_getR (pc2 := 71) dX2_beginFrame_68 rfl fX2_30 (hK_29 hS) (hR_29_8 hS) ?_
  refine r_aload0 (pc2 := 72) dX2_beginFrame_71 rfl ?_
  refine r_getI (z := 0) (pc2 := 75) dX2_beginFrame_72 rfl (Or.inl fX2_51) (hK_29 hS) h12 ?_
  refine r_iconst (pc2 := 76) dX2_beginFrame_75 rfl ?_
  refine r_iast (z := 0) (pc2 := 77) dX2_beginFrame_76 rfl (hK_36 hS) (by decide) 0 rfl (by omega) ?_
  refine r_aload0 (pc2 := 78) dX2_beginFrame_77 rfl ?_
  refine r_getR (pc2 := 81) dX2_beginFrame_78 rfl fX2_33 (hK_29 hS) (hR_29_9 hS) ?_
  refine r_aload0 (pc2 := 82) dX2_beginFrame_81 rfl ?_
  refine r_getI (z := 0) (pc2 := 85) dX2_beginFrame_82 rfl (Or.inl fX2_51) (hK_29 hS) h12 ?_
  refine r_iconst (pc2 := 86) dX2_beginFrame_85 rfl ?_
  refine r_iast (z := 0) (pc2 := 87) dX2_beginFrame_86 rfl (hK_37 hS) (by decide) 0 rfl (by omega) ?_
  refine r_aload0 (pc2 := 88) dX2_beginFrame_87 rfl ?_
  refine r_getR (pc2 := 91) dX2_beginFrame_88 rfl fX2_36 (hK_29 hS) (hR_29_10 hS) ?_
  refine r_aload0 (pc2 := 92) dX2_beginFrame_91 rfl ?_
  refine r_getI (z := 0) (pc2 := 95) dX2_beginFrame_92 rfl (Or.inl fX2_51) (hK_29 hS) h12 ?_
  refine r_iconst (pc2 := 96) dX2_beginFrame_95 rfl ?_
  refine r_zast (z := 0) (pc2 := 97) dX2_beginFrame_96 rfl (hK_38 hS) (by decide) 0 rfl (by omega) (by omega) ?_
  refine r_goto (tgt := 160) dX2_beginFrame_97 (by decide) ?_
  refine r_ret dX2_beginFrame_160 rfl ?_
  refine ⟨rfl, ⟨?_, ?_, ?_, ?_, ?_, ?_, ?_, ?_, ?_, ?_⟩, rfl, fun a k q => ?_, rfl⟩
  · (repeat (first | rw [pI_at] | rw [pI_ne (by decide)] | rw [pI_nk (by omega)])); exact h12
  · (repeat (first | rw [pI_at] | rw [pI_ne (by decide)] | rw [pI_nk (by omega)])); all_goals (try rfl)
  · (repeat (first | rw [pI_at] | rw [pI_ne (by decide)] | rw [pI_nk (by omega)])); all_goals (try rfl)
  · (repeat (first | rw [pI_at] | rw [pI_ne (by decide)] | rw [pI_nk (by omega)])); all_goals (try rfl)
  · (repeat (first | rw [pI_at] | rw [pI_ne (by decide)] | rw [pI_nk (by omega)])); all_goals (try rfl)
  · (repeat (first | rw [pI_at] | rw [pI_ne (by decide)] | rw [pI_nk (by omega)])); all_goals (try rfl)
  · (repeat (first | rw [pI_at] | rw [pI_ne (by decide)] | rw [pI_nk (by omega)])); all_goals (try rfl)
  · (repeat (first | rw [pI_at] | rw [pI_ne (by decide)] | rw [pI_nk (by omega)])); all_goals (try rfl)
  · (repeat (first | rw [pI_at] | rw [pI_ne (by decide)] | rw [pI_nk (by omega)])); all_goals (try rfl)
  · (repeat (first | rw [pI_at] | rw [pI_ne (by decide)] | rw [pI_nk (by omega)])); all_goals (try rfl)
  · rw [pI_n9 (by omega), pI_n9 (by omega), pI_n9 (by omega), pI_n9 (by omega), pI_n9 (by omega), pI_n9 (by omega), pI_n9 (by omega), pI_n9 (by omega), pI_n9 (by omega)]
set_option maxHeartbeats 4000000 in
theorem c_X2_endTime {d : Nat} {M : pM} {t i st e tl : Nat} {sx sy dx dy m : Int} (hS : sOk M.1) (hF : FT M (t + 1) i st e (tl + 1) sx sy dx dy m) (ht : t < 155) (htl : tl ≤ 12) : Ct (d + 1) 0 0 yX2_endTime [.ref 29] M (fun v M2 => v = none ∧ if 0 < tl then FT M2 (t + 1) st st e tl sx sy (dx + sx) (dy + sy) m ∧ frG t M M2 else M2.2.1 29 12 = ((t : Nat) : Int) ∧ frG t M M2) := by
  refine ct_in (d := d) kX2_endTime rfl (by decide) (Nat.le_of_ble_eq_true rfl) (by decide) ?_
  show Go (Ct d) _ yX2_endTime cX2_endTime none 0 0 0 [some (.ref 29)] [] M
  refine r_aload0 (pc2 := 1) dX2_endTime_0 rfl ?_
  refine r_getR (pc2 := 4) dX2_endTime_1 rfl fX2_21 (hK_29 hS) (hR_29_5 hS) ?_
  refine r_aload0 (pc2 := 5) dX2_endTime_4 rfl ?_
  refine r_getI (z := ((t + 1 : Nat) : Int)) (pc2 := 8) dX2_endTime_5 rfl (Or.inl fX2_51) (hK_29 hS) hF.1 ?_
  refine r_dup2 (pc2 := 9) dX2_endTime_8 rfl rfl rfl ?_
  refine r_iald (z := ((tl + 1 : Nat) : Int)) (pc2 := 10) dX2_endTime_9 rfl (hK_33 hS) (t + 1) rfl (by omega) hF.2.2.2.2.1 ?_
  refine r_iconst (pc2 := 11) dX2_endTime_10 rfl ?_
  refine r_isub (c := ((tl : Nat) : Int)) (pc2 := 12) dX2_endTime_11 rfl (by omega) ?_
  refine r_iast (z := ((tl : Nat) : Int)) (pc2 := 13) dX2_endTime_12 rfl (hK_33 hS) (by decide) (t + 1) rfl (by omega) ?_
  refine r_aload0 (pc2 := 14) dX2_endTime_13 rfl ?_
  refine r_getR (pc2 := 17) dX2_endTime_14 rfl fX2_21 (hK_29 hS) (hR_29_5 hS) ?_
  refine r_aload0 (pc2 := 18) dX2_endTime_17 rfl ?_
  refine r_getI (z := ((t + 1 : Nat) : Int)) (pc2 := 21) dX2_endTime_18 rfl (Or.inl fX2_51) (hK_29 hS) hF.1 ?_
  refine r_iald (z := ((tl : Nat) : Int)) (pc2 := 22) dX2_endTime_21 rfl (hK_33 hS) (t + 1) rfl (by omega) pI_at ?_
  refine r_ifgt (tgt := 36) (pc2 := 25) dX2_endTime_22 rfl (by decide) ⟨by omega, by omega⟩ (fun b_22 => ?_) (fun b_22 => ?_)
  · refine r_aload0 (pc2 := 37) dX2_endTime_36 rfl ?_
    refine r_getR (pc2 := 40) dX2_endTime_37 rfl fX2_11 (hK_29 hS) (hR_29_2 hS) ?_
    refine r_aload0 (pc2 := 41) dX2_endTime_40 rfl ?_
    refine r_getI (z := ((t + 1 : Nat) : Int)) (pc2 := 44) dX2_endTime_41 rfl (Or.inl fX2_51) (hK_29 hS) hF.1 ?_
    refine r_aload0 (pc2 := 45) dX2_endTime_44 rfl ?_
    refine r_getR (pc2 := 48) dX2_endTime_45 rfl fX2_15 (hK_29 hS) (hR_29_3 hS) ?_
    refine r_aload0 (pc2 := 49) dX2_endTime_48 rfl ?_
    refine r_getI (z := ((t + 1 : Nat) : Int)) (pc2 := 52) dX2_endTime_49 rfl (Or.inl fX2_51) (hK_29 hS) hF.1 ?_
    refine r_iald (z := ((st : Nat) : Int)) (pc2 := 53) dX2_endTime_52 rfl (hK_31 hS) (t + 1) rfl (by omega) (by rw [pI_ne (by decide)]; exact hF.2.2.1) ?_
    refine r_iast (z := ((st : Nat) : Int)) (pc2 := 54) dX2_endTime_53 rfl (hK_30 hS) (by decide) (t + 1) rfl (by omega) ?_
    refine r_aload0 (pc2 := 55) dX2_endTime_54 rfl ?_
    refine r_getR (pc2 := 58) dX2_endTime_55 rfl fX2_30 (hK_29 hS) (hR_29_8 hS) ?_
    refine r_aload0 (pc2 := 59) dX2_endTime_58 rfl ?_
    refine r_getI (z := ((t + 1 : Nat) : Int)) (pc2 := 62) dX2_endTime_59 rfl (Or.inl fX2_51) (hK_29 hS) hF.1 ?_
    refine r_dup2 (pc2 := 63) dX2_endTime_62 rfl rfl rfl ?_
    refine r_iald (z := dx) (pc2 := 64) dX2_endTime_63 rfl (hK_36 hS) (t + 1) rfl (by omega) (by (repeat (first | rw [pI_at] | rw [pI_ne (by decide)] | rw [pI_nk (by omega)])); exact hF.2.2.2.2.2.2.2.1) ?_
    refine r_aload0 (pc2 := 65) dX2_endTime_64 rfl ?_
    refine r_getR (pc2 := 68) dX2_endTime_65 rfl fX2_24 (hK_29 hS) (hR_29_6 hS) ?_
    refine r_aload0 (pc2 := 69) dX2_endTime_68 rfl ?_
    refine r_getI (z := ((t + 1 : Nat) : Int)) (pc2 := 72) dX2_endTime_69 rfl (Or.inl fX2_51) (hK_29 hS) hF.1 ?_
    refine r_iald (z := sx) (pc2 := 73) dX2_endTime_72 rfl (hK_34 hS) (t + 1) rfl (by omega) (by (repeat (first | rw [pI_at] | rw [pI_ne (by decide)] | rw [pI_nk (by omega)])); exact hF.2.2.2.2.2.1) ?_
    refine r_iadd (c := (dx + sx)) (pc2 := 74) dX2_endTime_73 rfl rfl ?_
    refine r_iast (z := (dx + sx)) (pc2 := 75) dX2_endTime_74 rfl (hK_36 hS) (by decide) (t + 1) rfl (by omega) ?_
    refine r_aload0 (pc2 := 76) dX2_endTime_75 rfl ?_
    refine r_getR (pc2 := 79) dX2_endTime_76 rfl fX2_33 (hK_29 hS) (hR_29_9 hS) ?_
    refine r_aload0 (pc2 := 80) dX2_endTime_79 rfl ?_
    refine r_getI (z := ((t + 1 : Nat) : Int)) (pc2 := 83) dX2_endTime_80 rfl (Or.inl fX2_51) (hK_29 hS) hF.1 ?_
    refine r_dup2 (pc2 := 84) dX2_endTime_83 rfl rfl rfl ?_
    refine r_iald (z := dy) (pc2 := 85) dX2_endTime_84 rfl (hK_37 hS) (t + 1) rfl (by omega) (by (repeat (first | rw [pI_at] | rw [pI_ne (by decide)] | rw [pI_nk (by omega)])); exact hF.2.2.2.2.2.2.2.2.1) ?_
    refine r_aload0 (pc2 := 86) dX2_endTime_85 rfl ?_
    refine r_getR (pc2 := 89) dX2_endTime_86 rfl fX2_27 (hK_29 hS) (hR_29_7 hS) ?_
    refine r_aload0 (pc2 := 90) dX2_endTime_89 rfl ?_
    refine r_getI (z := ((t + 1 : Nat) : Int)) (pc2 := 93) dX2_endTime_90 rfl (Or.inl fX2_51) (hK_29 hS) hF.1 ?_
    refine r_iald (z := sy) (pc2 := 94) dX2_endTime_93 rfl (hK_35 hS) (t + 1) rfl (by omega) (by (repeat (first | rw [pI_at] | rw [pI_ne (by decide)] | rw [pI_nk (by omega)])); exact hF.2.2.2.2.2.2.1) ?_
    refine r_iadd (c := (dy + sy)) (pc2 := 95) dX2_endTime_94 rfl rfl ?_
    refine r_iast (z := (dy + sy)) (pc2 := 96) dX2_endTime_95 rfl (hK_37 hS) (by decide) (t + 1) rfl (by omega) ?_
    refine r_ret dX2_endTime_96 rfl ?_
    refine ⟨rfl, ?_⟩
    rw [if_pos (by omega)]
    obtain ⟨h1, h2, h3, h4, h5, h6, h7, h8, h9, h10⟩ := hF
    refine ⟨⟨?_, ?_, ?_, ?_, ?_, ?_, ?_, ?_, ?_, ?_⟩, ((((frG.rf.I (by unfold okG; omega)).I (by unfold okG; omega)).I (by unfold okG; omega)).I (by unfold okG; omega))⟩
    · (repeat (first | rw [pI_at] | rw [pI_ne (by decide)] | rw [pI_nk (by omega)])); exact h1
    · (repeat (first | rw [pI_at] | rw [pI_ne (by decide)] | rw [pI_nk (by omega)]))
    · (repeat (first | rw [pI_at] | rw [pI_ne (by decide)] | rw [pI_nk (by omega)])); exact h3
    · (repeat (first | rw [pI_at] | rw [pI_ne (by decide)] | rw [pI_nk (by omega)])); exact h4
    · (repeat (first | rw [pI_at] | rw [pI_ne (by decide)] | rw [pI_nk (by omega)]))
    · (repeat (first | rw [pI_at] | rw [pI_ne (by decide)] | rw [pI_nk (by omega)])); exact h6
    · (repeat (first | rw [pI_at] | rw [pI_ne (by decide)] | rw [pI_nk (by omega)])); exact h7
    · (repeat (first | rw [pI_at] | rw [pI_ne (by decide)] | rw [pI_nk (by omega)]))
    · (repeat (first | rw [pI_at] | rw [pI_ne (by decide)] | rw [pI_nk (by omega)]))
    · (repeat (first | rw [pI_at] | rw [pI_ne (by decide)] | rw [pI_nk (by omega)])); exact h10
  · refine r_aload0 (pc2 := 26) dX2_endTime_25 rfl ?_
    refine r_dup (pc2 := 27) dX2_endTime_26 rfl rfl ?_
    refine r_getI (z := ((t + 1 : Nat) : Int)) (pc2 := 30) dX2_endTime_27 rfl (Or.inl fX2_51) (hK_29 hS) hF.1 ?_
    refine r_iconst (pc2 := 31) dX2_endTime_30 rfl ?_
    refine r_isub (c := ((t : Nat) : Int)) (pc2 := 32) dX2_endTime_31 rfl (by omega) ?_
    refine r_putI (z := ((t : Nat) : Int)) (pc2 := 35) dX2_endTime_32 rfl fX2_51 (w2_12 _) (hK_29 hS) (by decide) ?_
    refine r_ret dX2_endTime_35 rfl ?_
    refine ⟨rfl, ?_⟩
    rw [if_neg (by omega)]
    exact ⟨pI_at, (frG.rf.I (by unfold okG; omega)).I (by unfold okG; omega)⟩
set_option maxHeartbeats 4000000 in
theorem c_X2_endTime0 {d : Nat} {M : pM} {i st e : Nat} {sx sy dx dy m : Int} (hS : sOk M.1) (hF : FT M 0 i st e 1 sx sy dx dy m) : Ct (d + 1) 0 0 yX2_endTime [.ref 29] M (fun v M2 => v = none ∧ M2 = pI (pI M 33 0 0) 29 12 (-1)) := by
  refine ct_in (d := d) kX2_endTime rfl (by decide) (Nat.le_of_ble_eq_true rfl) (by decide) ?_
  show Go (Ct d) _ yX2_endTime cX2_endTime none 0 0 0 [some (.ref 29)] [] M
  refine r_aload0 (pc2 := 1) dX2_endTime_0 rfl ?_
  refine r_getR (pc2 := 4) dX2_endTime_1 rfl fX2_21 (hK_29 hS) (hR_29_5 hS) ?_
  refine r_aload0 (pc2 := 5) dX2_endTime_4 rfl ?_
  refine r_getI (z := 0) (pc2 := 8) dX2_endTime_5 rfl (Or.inl fX2_51) (hK_29 hS) hF.1 ?_
  refine r_dup2 (pc2 := 9) dX2_endTime_8 rfl rfl rfl ?_
  refine r_iald (z := 1) (pc2 := 10) dX2_endTime_9 rfl (hK_33 hS) 0 rfl (by omega) hF.2.2.2.2.1 ?_
  refine r_iconst (pc2 := 11) dX2_endTime_10 rfl ?_
  refine r_isub (c := 0) (pc2 := 12) dX2_endTime_11 rfl rfl ?_
  refine r_iast (z := 0) (pc2 := 13) dX2_endTime_12 rfl (hK_33 hS) (by decide) 0 rfl (by omega) ?_
  refine r_aload0 (pc2 := 14) dX2_endTime_13 rfl ?_
  refine r_getR (pc2 := 17) dX2_endTime_14 rfl fX2_21 (hK_29 hS) (hR_29_5 hS) ?_
  refine r_aload0 (pc2 := 18) dX2_endTime_17 rfl ?_
  refine r_getI (z := 0) (pc2 := 21) dX2_endTime_18 rfl (Or.inl fX2_51) (hK_29 hS) hF.1 ?_
  refine r_iald (z := 0) (pc2 := 22) dX2_endTime_21 rfl (hK_33 hS) 0 rfl (by omega) pI_at ?_
  refine r_ifgt (tgt := 36) (pc2 := 25) dX2_endTime_22 rfl (by decide) ⟨by omega, by omega⟩ (fun h9 => absurd h9 (by decide)) (fun _ => ?_)
  refine r_aload0 (pc2 := 26) dX2_endTime_25 rfl ?_
  refine r_dup (pc2 := 27) dX2_endTime_26 rfl rfl ?_
  refine r_getI (z := 0) (pc2 := 30) dX2_endTime_27 rfl (Or.inl fX2_51) (hK_29 hS) hF.1 ?_
  refine r_iconst (pc2 := 31) dX2_endTime_30 rfl ?_
  refine r_isub (c := (-1)) (pc2 := 32) dX2_endTime_31 rfl rfl ?_
  refine r_putI (z := (-1)) (pc2 := 35) dX2_endTime_32 rfl fX2_51 (w2_12 _) (hK_29 hS) (by decide) ?_
  refine r_ret dX2_endTime_35 rfl ?_
  exact ⟨rfl, rfl⟩
