/-! the model's does and doesLine -/
theorem MQq.lane {M : pM} {s : qS} {l : Nat} {v : Int} (h : MQq M s) : MQq (pI M 331 l v) (qLane s l v) := by
  obtain ⟨⟨g1, g2, g3⟩, h2, h3, h4⟩ := h
  refine ⟨⟨?_, ?_, fun x hx => ?_⟩, ?_, ?_, ?_⟩
  · rw [pI_ne (show (328 : Nat) ≠ 331 by decide), pI_ne (show (329 : Nat) ≠ 331 by decide), pI_ne (show (330 : Nat) ≠ 331 by decide)]; exact g1
  · rw [pI_ne (show (333 : Nat) ≠ 331 by decide), pI_ne (show (332 : Nat) ≠ 331 by decide), pI_ne (show (334 : Nat) ≠ 331 by decide)]; exact g2
  · show _ = va_up s.1.2.2.2.1 l v x
    rw [pI_eq]
    by_cases e : x = l
    · subst e; rw [up_at, up_at]
    · rw [up_ne e, up_ne e]; exact g3 x hx
  · rw [pI_ne (by decide)]; exact h2
  · rw [pI_ne (by decide)]; exact h3
  · rw [pI_ne (by decide)]; exact h4
theorem MQq.ld {M : pM} {s : qS} (h : MQq M s) : MQq (pI M 317 25 ((s.2.2.1 + 1 : Nat) : Int)) (qLd s) := by
  obtain ⟨h1, h2, h3, h4⟩ := h
  refine ⟨?_, ?_, pI_at, ?_⟩
  · rw [pI_ne (by decide), pI_ne (by decide), pI_ne (by decide), pI_ne (by decide), pI_ne (by decide), pI_ne (by decide), pI_ne (by decide)]; exact h1
  · rw [pI_nk (by decide)]; exact h2
  · rw [pI_nk (by decide)]; exact h4
theorem MQq.hop {M : pM} {s : qS} {h c : Nat} {k n : Int} (hq : MQq M s) : MQq (pI (pI (pI M 332 h ((c : Nat) : Int)) 333 h k) 334 h n) (qHop s h c k n) := by
  obtain ⟨⟨g1, g2, g3⟩, h2, h3, h4⟩ := hq
  refine ⟨⟨?_, fun x hx => ?_, ?_⟩, ?_, ?_, ?_⟩
  · rw [pI_ne (show (328 : Nat) ≠ 334 by decide), pI_ne (show (328 : Nat) ≠ 333 by decide), pI_ne (show (328 : Nat) ≠ 332 by decide), pI_ne (show (329 : Nat) ≠ 334 by decide), pI_ne (show (329 : Nat) ≠ 333 by decide), pI_ne (show (329 : Nat) ≠ 332 by decide), pI_ne (show (330 : Nat) ≠ 334 by decide), pI_ne (show (330 : Nat) ≠ 333 by decide), pI_ne (show (330 : Nat) ≠ 332 by decide)]; exact g1
  · show _ = va_up s.1.2.1 h k x ∧ _ = ((va_up s.1.2.2.1 h c x : Nat) : Int) ∧ _ = va_up s.1.2.2.2.2 h n x
    rw [pI_ne (show (333 : Nat) ≠ 334 by decide), pI_eq, pI_ne (show (333 : Nat) ≠ 332 by decide), pI_ne (show (332 : Nat) ≠ 334 by decide), pI_ne (show (332 : Nat) ≠ 333 by decide), pI_eq, pI_eq, pI_ne (show (334 : Nat) ≠ 333 by decide), pI_ne (show (334 : Nat) ≠ 332 by decide)]
    by_cases e : x = h
    · subst e; rw [up_at, up_at, up_at, up_at, up_at, up_at]; exact ⟨rfl, rfl, rfl⟩
    · rw [up_ne e, up_ne e, up_ne e, up_ne e, up_ne e, up_ne e]; exact g2 x hx
  · rw [pI_ne (by decide), pI_ne (by decide), pI_ne (by decide)]; exact g3
  · rw [pI_ne (by decide), pI_ne (by decide), pI_ne (by decide)]; exact h2
  · rw [pI_ne (by decide), pI_ne (by decide), pI_ne (by decide)]; exact h3
  · rw [pI_ne (by decide), pI_ne (by decide), pI_ne (by decide)]; exact h4
theorem tn0 {z : Int} : tn 0 z = z := if_neg (by decide)
theorem tn1 {z : Int} : tn 1 z = -z := if_pos rfl
theorem qL10 {G : gPr} {rec : Nat → Nat → Int → Int → Int → qS → qS} {i : Nat} {m dx dy : Int} {s : qS} (h : gA G i = 10) : qLine G rec i m dx dy s = qPut (g1 G i) (g2 G i) (tn m (g3 G i) + dx) (g4 G i + dy) m s := if_pos h
theorem qL11 {G : gPr} {rec : Nat → Nat → Int → Int → Int → qS → qS} {i : Nat} {m dx dy : Int} {s : qS} (h : gA G i = 11) : qLine G rec i m dx dy s = agn (fun ax ay s => rec (i + 1) (gE G i).toNat m ax ay s) (tn m (g2 G i)) (g3 G i) (g1 G i).toNat dx dy s := by unfold qLine; rw [if_neg (by omega), if_pos h]
theorem qL12 {G : gPr} {rec : Nat → Nat → Int → Int → Int → qS → qS} {i : Nat} {m dx dy : Int} {s : qS} (h : gA G i = 12) : qLine G rec i m dx dy s = rec (i + 1) (gE G i).toNat (1 - m) (dx + tn m (2 * g1 G i)) dy s := by unfold qLine; rw [if_neg (by omega), if_neg (by omega), if_pos h]
theorem qL14 {G : gPr} {rec : Nat → Nat → Int → Int → Int → qS → qS} {i : Nat} {m dx dy : Int} {s : qS} (h : gA G i = 14) : qLine G rec i m dx dy s = rec ((g1 G i).toNat + 1) (gE G (g1 G i).toNat).toNat m (dx + tn m (g2 G i)) (dy + g3 G i) s := by unfold qLine; rw [if_neg (by omega), if_neg (by omega), if_neg (by omega), if_pos h]
theorem qL15 {G : gPr} {rec : Nat → Nat → Int → Int → Int → qS → qS} {i : Nat} {m dx dy : Int} {s : qS} (h : gA G i = 15) : qLine G rec i m dx dy s = qLane s (g1 G i).toNat (g2 G i) := by unfold qLine; rw [if_neg (by omega), if_neg (by omega), if_neg (by omega), if_neg (by omega), if_pos h]
theorem qL16 {G : gPr} {rec : Nat → Nat → Int → Int → Int → qS → qS} {i : Nat} {m dx dy : Int} {s : qS} (h : gA G i = 16) : qLine G rec i m dx dy s = qHop s (g1 G i).toNat (g2 G i).toNat (g3 G i) (g4 G i) := by unfold qLine; rw [if_neg (by omega), if_neg (by omega), if_neg (by omega), if_neg (by omega), if_neg (by omega), if_pos h]
theorem qL13 {G : gPr} {rec : Nat → Nat → Int → Int → Int → qS → qS} {i : Nat} {m dx dy : Int} {s : qS} (h : gA G i = 13) : qLine G rec i m dx dy s = s := by unfold qLine; rw [if_neg (by omega), if_neg (by omega), if_neg (by omega), if_neg (by omega), if_neg (by omega), if_neg (by omega)]
theorem mul_144 {k z : Int} (h1 : 0 ≤ k ∧ k ≤ 12) (h2 : -12 ≤ z ∧ z ≤ 12) : -144 ≤ k * z ∧ k * z ≤ 144 := by
  have a1 : k * z ≤ k * 12 := Int.mul_le_mul_of_nonneg_left h2.2 h1.1
  have a2 : k * (-12) ≤ k * z := Int.mul_le_mul_of_nonneg_left h2.1 h1.1
  omega
def dxB (c : Nat) (x : Int) : Prop := -(200 * (156 - (c : Int))) ≤ x ∧ x ≤ 200 * (156 - (c : Int))
def DOp (G : gPr) (u ns : Nat → Nat) (d f : Nat) : Prop := ∀ (c i e : Nat) (m dx dy : Int) (s : qS) (M : pM), sOk M.1 → MG M G → MQq M s → qOk2 s → frm G u ns i e c → 126 * c + (e - i) < f ∧ i ≤ 126 → (m = 0 ∨ m = 1) → dxB c dx → dxB c dy → Ct (d + 2 * c + 6) 0 0 yX12_does [.ref 317, .int (iI ((i : Nat) : Int)), .int (iI ((e : Nat) : Int)), .int (iI m), .int (iI dx), .int (iI dy)] M (fun v M2 => v = none ∧ MQq M2 (dos G f i e m dx dy s) ∧ frQ M M2)
set_option maxHeartbeats 8000000 in
theorem lp_X12_doesLine0 {G : gPr} {u ns : Nat → Nat} {d f c i e : Nat} {dx dy SX : Int} {Q : pQ} (M0 : pM) (hS0 : sOk M0.1) (hG0 : MG M0 G) (hP : PV G u ns) (hR : DOp G u ns d f) (hf : frm G u ns i e (c + 1)) (hie : i < e) (hm : 126 * (c + 1) + (e - i) < f + 1) (hdx : dxB (c + 1) dx) (hdy : dxB (c + 1) dy) (hA : gA G i = 11) (hSX : tn 0 (g2 G i) = SX) :
    ∀ (n k : Nat) (s : qS) (M : pM), k + n = (g1 G i).toNat → frQ M0 M → MQq M s → qOk2 s → (∀ M2, MQq M2 (agn (fun ax ay s => dos G f (i + 1) (gE G i).toNat 0 ax ay s) SX (g3 G i) n (dx + ((k : Nat) : Int) * SX) (dy + ((k : Nat) : Int) * g3 G i) s) → frQ M0 M2 → Q none M2) →
      Go (Ct (d + 2 * c + 6)) Q yX12_doesLine cX12_doesLine none 0 0 68 [some (.ref 317), some (.int (iI ((i : Nat) : Int))), some (.int (iI 0)), some (.int (iI dx)), some (.int (iI dy)), some (.int (iI ((5 * i : Nat) : Int))), some (.int (iI ((k : Nat) : Int)))] [] M := by
  have his : i < gS G := by have := hf.1; omega
  have hl := hP.2.2.2.2 i his
  have hL := hl.2.2.2.1.2.1 hA
  have h125 := hP.1.1
  have hE1 := hl.2.1
  have hE2 := hl.2.2.1
  have hin := hf.inn hP hie (Or.inl hA)
  rw [tn0] at hSX
  have hSb : -12 ≤ SX ∧ SX ≤ 12 := by omega
  have hc := hin.2.2
  unfold dxB at hdx hdy
  intro n
  induction n with
  | zero =>
    intro k s M hk hF hQ ho hE9
    have hS := hF.ok hS0
    have hG := hG0.fq hF
    have ho9 := ho.1.2.2.2.2
    have hG9 := hG.2.2.1 i his
    have a1 : M.2.1 324 (5 * i) = g1 G i := hG9.2.2.1 (by omega) (by omega)
    have a2 := (hG9.2.2.2.2.1 (Or.inr (Or.inl hA))).1
    have a3 := (hG9.2.2.2.2.1 (Or.inr (Or.inl hA))).2
    have hE : M.2.1 325 i = (((gE G i).toNat : Nat) : Int) := by rw [hG9.2.1]; omega
    refine r_iload6 (pc2 := 70) dX12_doesLine_68 rfl ?_
    refine r_aload0 (pc2 := 71) dX12_doesLine_70 rfl ?_
    refine r_getR (pc2 := 74) dX12_doesLine_71 rfl fX12_74 (hK_317 hS) (hR_317_12 hS) ?_
    refine r_iload5 (pc2 := 76) dX12_doesLine_74 rfl ?_
    refine r_iald (z := (g1 G i)) (pc2 := 77) dX12_doesLine_76 rfl (hK_324 hS) (5 * i) rfl (by omega) a1 ?_
    refine r_icge (tgt := 153) (pc2 := 80) dX12_doesLine_77 rfl (by decide) ⟨by omega, by omega⟩ ⟨by omega, by omega⟩ (fun b_77 => ?_) (fun b_77 => ?_)
    · refine r_goto (tgt := 391) dX12_doesLine_153 (by decide) ?_
      refine r_ret dX12_doesLine_391 rfl ?_
      exact hE9 M hQ hF
    · exact absurd b_77 (by omega)
  | succ n ih =>
    intro k s M hk hF hQ ho hE9
    have hS := hF.ok hS0
    have hG := hG0.fq hF
    have ho9 := ho.1.2.2.2.2
    have hG9 := hG.2.2.1 i his
    have a1 : M.2.1 324 (5 * i) = g1 G i := hG9.2.2.1 (by omega) (by omega)
    have a2 := (hG9.2.2.2.2.1 (Or.inr (Or.inl hA))).1
    have a3 := (hG9.2.2.2.2.1 (Or.inr (Or.inl hA))).2
    have hE : M.2.1 325 i = (((gE G i).toNat : Nat) : Int) := by rw [hG9.2.1]; omega
    have p1 := mul_144 (k := ((k : Nat) : Int)) (z := SX) ⟨by omega, by omega⟩ hSb
    have p2 := mul_144 (k := ((k : Nat) : Int)) (z := g3 G i) ⟨by omega, by omega⟩ hL.2.2
    have q1 : ((k + 1 : Nat) : Int) * SX = ((k : Nat) : Int) * SX + SX := by rw [show ((k + 1 : Nat) : Int) = (k : Int) + 1 from rfl, Int.add_mul, Int.one_mul]
    have q2 : ((k + 1 : Nat) : Int) * g3 G i = ((k : Nat) : Int) * g3 G i + g3 G i := by rw [show ((k + 1 : Nat) : Int) = (k : Int) + 1 from rfl, Int.add_mul, Int.one_mul]
    refine r_iload6 (pc2 := 70) dX12_doesLine_68 rfl ?_
    refine r_aload0 (pc2 := 71) dX12_doesLine_70 rfl ?_
    refine r_getR (pc2 := 74) dX12_doesLine_71 rfl fX12_74 (hK_317 hS) (hR_317_12 hS) ?_
    refine r_iload5 (pc2 := 76) dX12_doesLine_74 rfl ?_
    refine r_iald (z := (g1 G i)) (pc2 := 77) dX12_doesLine_76 rfl (hK_324 hS) (5 * i) rfl (by omega) a1 ?_
    refine r_icge (tgt := 153) (pc2 := 80) dX12_doesLine_77 rfl (by decide) ⟨by omega, by omega⟩ ⟨by omega, by omega⟩ (fun b_77 => ?_) (fun b_77 => ?_)
    · refine r_goto (tgt := 391) dX12_doesLine_153 (by decide) ?_
      refine r_ret dX12_doesLine_391 rfl ?_
      exact absurd b_77 (by omega)
    · refine r_aload0 (pc2 := 81) dX12_doesLine_80 rfl ?_
      refine r_getI (z := s.2.2.2.2) (pc2 := 84) dX12_doesLine_81 rfl (Or.inl fX12_260) (hK_317 hS) hQ.2.1 ?_
      refine r_ifne (tgt := 153) (pc2 := 87) dX12_doesLine_84 rfl (by decide) ⟨by omega, by omega⟩ (fun b_84 => ?_) (fun b_84 => ?_)
      · refine r_goto (tgt := 391) dX12_doesLine_153 (by decide) ?_
        refine r_ret dX12_doesLine_391 rfl ?_
        refine hE9 M ?_ hF
        rw [agn, if_neg b_84]
        exact hQ
      · refine r_aload0 (pc2 := 88) dX12_doesLine_87 rfl ?_
        refine r_iload1 (pc2 := 89) dX12_doesLine_88 rfl ?_
        refine r_iconst (pc2 := 90) dX12_doesLine_89 rfl ?_
        refine r_iadd (c := ((i + 1 : Nat) : Int)) (pc2 := 91) dX12_doesLine_90 rfl (by omega) ?_
        refine r_aload0 (pc2 := 92) dX12_doesLine_91 rfl ?_
        refine r_getR (pc2 := 95) dX12_doesLine_92 rfl fX12_77 (hK_317 hS) (hR_317_13 hS) ?_
        refine r_iload1 (pc2 := 96) dX12_doesLine_95 rfl ?_
        refine r_iald (z := (((gE G i).toNat : Nat) : Int)) (pc2 := 97) dX12_doesLine_96 rfl (hK_325 hS) i rfl (by omega) hE ?_
        refine r_iload2 (pc2 := 98) dX12_doesLine_97 rfl ?_
        refine r_iload3 (pc2 := 99) dX12_doesLine_98 rfl ?_
        refine r_iload6 (pc2 := 101) dX12_doesLine_99 rfl ?_
        refine r_iload2 (pc2 := 102) dX12_doesLine_101 rfl ?_
        refine r_ifeq (tgt := 118) (pc2 := 105) dX12_doesLine_102 rfl (by decide) ⟨by omega, by omega⟩ (fun _ => ?_) (fun h9 => absurd h9 (by decide))
        refine r_aload0 (pc2 := 119) dX12_doesLine_118 rfl ?_
        refine r_getR (pc2 := 122) dX12_doesLine_119 rfl fX12_74 (hK_317 hS) (hR_317_12 hS) ?_
        refine r_iload5 (pc2 := 124) dX12_doesLine_122 rfl ?_
        refine r_iconst (pc2 := 125) dX12_doesLine_124 rfl ?_
        refine r_iadd (c := ((5 * i + 1 : Nat) : Int)) (pc2 := 126) dX12_doesLine_125 rfl (by omega) ?_
        refine r_iald (z := SX) (pc2 := 127) dX12_doesLine_126 rfl (hK_324 hS) (5 * i + 1) rfl (by omega) (by rw [a2]; exact hSX) ?_
        refine r_imul (c := (((k : Nat) : Int) * SX)) (pc2 := 128) dX12_doesLine_127 rfl rfl ?_
        refine r_iadd (c := (dx + (((k : Nat) : Int) * SX))) (pc2 := 129) dX12_doesLine_128 rfl rfl ?_
        refine r_iload4 (pc2 := 131) dX12_doesLine_129 rfl ?_
        refine r_iload6 (pc2 := 133) dX12_doesLine_131 rfl ?_
        refine r_aload0 (pc2 := 134) dX12_doesLine_133 rfl ?_
        refine r_getR (pc2 := 137) dX12_doesLine_134 rfl fX12_74 (hK_317 hS) (hR_317_12 hS) ?_
        refine r_iload5 (pc2 := 139) dX12_doesLine_137 rfl ?_
        refine r_iconst (pc2 := 140) dX12_doesLine_139 rfl ?_
        refine r_iadd (c := ((5 * i + 2 : Nat) : Int)) (pc2 := 141) dX12_doesLine_140 rfl (by omega) ?_
        refine r_iald (z := (g3 G i)) (pc2 := 142) dX12_doesLine_141 rfl (hK_324 hS) (5 * i + 2) rfl (by omega) a3 ?_
        refine r_imul (c := (((k : Nat) : Int) * (g3 G i))) (pc2 := 143) dX12_doesLine_142 rfl rfl ?_
        refine r_iadd (c := (dy + (((k : Nat) : Int) * (g3 G i)))) (pc2 := 144) dX12_doesLine_143 rfl rfl ?_
        have h7 := hR c (i + 1) (gE G i).toNat 0 (dx + ((k : Nat) : Int) * SX) (dy + ((k : Nat) : Int) * g3 G i) s M hS hG hQ ho hin ⟨by omega, by omega⟩ (by decide) (by unfold dxB; omega) (by unfold dxB; omega)
        refine r_cv5 (pc2 := 147) dX12_doesLine_144 rfl vX12_269 (hK_317 hS) (by decide) h7 ?_
        rintro _ M9 ⟨rfl, h8, h9⟩
        show Go (Ct (d + 2 * c + 6)) _ yX12_doesLine cX12_doesLine none 0 0 147 [some (.ref 317), some (.int (iI ((i : Nat) : Int))), some (.int (iI 0)), some (.int (iI dx)), some (.int (iI dy)), some (.int (iI ((5 * i : Nat) : Int))), some (.int (iI ((k : Nat) : Int)))] [] M9
        refine r_iinc6 (z := ((k + 1 : Nat) : Int)) (pc2 := 150) dX12_doesLine_147 rfl (by omega) rfl ?_
        refine r_goto (tgt := 68) dX12_doesLine_150 (by decide) ?_
        refine ih (k + 1) _ M9 (by omega) (hF.tr h9) h8 (dos_ok hP _ _ _ _ _ _ _ (by omega) ho) (fun M2 g1 g2 => hE9 M2 ?_ g2)
        rw [agn, if_pos (by omega)]
        rw [q1, q2, ← Int.add_assoc, ← Int.add_assoc] at g1
        exact g1
set_option maxHeartbeats 8000000 in
theorem c_X12_doesLine0 {G : gPr} {u ns : Nat → Nat} {d f c i e : Nat} {dx dy : Int} {s : qS} {M : pM} (hP : PV G u ns) (hR : DOp G u ns d f) (hf : frm G u ns i e (c + 1)) (hie : i < e) (hm : 126 * (c + 1) + (e - i) < f + 1) (hdx : dxB (c + 1) dx) (hdy : dxB (c + 1) dy) (hS : sOk M.1) (hG : MG M G) (hQ : MQq M s) (ho : qOk2 s) (h0 : s.2.2.2.2 = 0) (hld : s.2.2.2.1 < s.2.2.1) : Ct (d + 2 * c + 7) 0 0 yX12_doesLine [.ref 317, .int (iI ((i : Nat) : Int)), .int (iI 0), .int (iI dx), .int (iI dy)] M (fun v M2 => v = none ∧ MQq M2 (qLine G (fun a b m2 ax ay s2 => dos G f a b m2 ax ay s2) i 0 dx dy s) ∧ frQ M M2) := by
  refine ct_in (d := d + 2 * c + 6) kX12_doesLine rfl (by decide) (Nat.le_of_ble_eq_true rfl) (by decide) ?_
  show Go (Ct (d + 2 * c + 6)) _ yX12_doesLine cX12_doesLine none 0 0 0 [some (.ref 317), some (.int (iI ((i : Nat) : Int))), some (.int (iI 0)), some (.int (iI dx)), some (.int (iI dy)), none, none] [] M
  have his : i < gS G := by have := hf.1; omega
  have hl := hP.2.2.2.2 i his
  have hA9 := hl.1
  have hLV := hl.2.2.2.1
  have h125 := hP.1.1
  have hE1 := hl.2.1
  have hE2 := hl.2.2.1
  have hG9 := hG.2.2.1 i his
  have hc := hf.2.2
  have hE : M.2.1 325 i = (((gE G i).toNat : Nat) : Int) := by rw [hG9.2.1]; omega
  have hdx2 := hdx
  have hdy2 := hdy
  unfold dxB at hdx2 hdy2
  refine r_iconst (pc2 := 1) dX12_doesLine_0 rfl ?_
  refine r_iload1 (pc2 := 2) dX12_doesLine_1 rfl ?_
  refine r_imul (c := ((5 * i : Nat) : Int)) (pc2 := 3) dX12_doesLine_2 rfl (by omega) ?_
  refine r_istore5 (pc2 := 5) dX12_doesLine_3 rfl rfl ?_
  refine r_aload0 (pc2 := 6) dX12_doesLine_5 rfl ?_
  refine r_getR (pc2 := 9) dX12_doesLine_6 rfl fX12_71 (hK_317 hS) (hR_317_11 hS) ?_
  refine r_iload1 (pc2 := 10) dX12_doesLine_9 rfl ?_
  refine r_iald (z := (gA G i - 10)) (pc2 := 11) dX12_doesLine_10 rfl (hK_323 hS) i rfl (by omega) hG9.1 ?_
  by_cases sw11_0 : (gA G i - 10) = 0
  · refine r_tabIn (tgt := 52) dX12_doesLine_11 ⟨by omega, by omega⟩ 0 (by omega) (by omega) rfl (by decide) ?_
    have hA : gA G i = 10 := by omega
    have hV := hLV.1 hA
    have a2 := hG9.2.2.2.2.1 (Or.inl hA)
    have hz : 0 ≤ g2 G i ∧ g2 G i ≤ 9 := by
      by_cases d6 : g1 G i = 6
      · have := hV.2.2.2.2.1 d6; omega
      · by_cases d7 : g1 G i = 7
        · have := hV.2.2.2.2.2.1 d7; omega
        · by_cases d4 : g1 G i = 4 ∨ g1 G i = 9
          · have := hV.2.2.2.1 d4; omega
          · have := hV.2.2.2.2.2.2 (by omega) (by omega) d6 d7; omega
    refine r_aload0 (pc2 := 53) dX12_doesLine_52 rfl ?_
    refine r_iload5 (pc2 := 55) dX12_doesLine_53 rfl ?_
    refine r_iload2 (pc2 := 56) dX12_doesLine_55 rfl ?_
    refine r_iload3 (pc2 := 57) dX12_doesLine_56 rfl ?_
    refine r_iload4 (pc2 := 59) dX12_doesLine_57 rfl ?_
    refine r_cv4 (pc2 := 62) dX12_doesLine_59 rfl vX12_286 (hK_317 hS) (by decide) (c_X12_puts0 (d := d + 2 * c + 2) (i := i) (X := g3 G i + dx) (Y := g4 G i + dy) hS hQ ho.1 (by omega) (hG9.2.2.1 (by omega) (by omega)) a2.1 a2.2 (hG9.2.2.2.2.2.2 (Or.inl hA)) hV.1 hz rfl rfl ⟨by omega, by omega⟩ ⟨by omega, by omega⟩ rfl) ?_
    rintro _ M9 ⟨rfl, q2, q3⟩
    show Go (Ct (d + 2 * c + 6)) _ yX12_doesLine cX12_doesLine none 0 0 62 [some (.ref 317), some (.int (iI ((i : Nat) : Int))), some (.int (iI 0)), some (.int (iI dx)), some (.int (iI dy)), some (.int (iI ((5 * i : Nat) : Int))), none] [] M9
    refine r_goto (tgt := 391) dX12_doesLine_62 (by decide) ?_
    refine r_ret dX12_doesLine_391 rfl ?_
    exact ⟨rfl, by rw [qL10 hA, tn0]; exact q2, q3⟩
  by_cases sw11_1 : (gA G i - 10) = 1
  · refine r_tabIn (tgt := 65) dX12_doesLine_11 ⟨by omega, by omega⟩ 1 (by omega) (by omega) rfl (by decide) ?_
    have hA : gA G i = 11 := by omega
    have hV := hLV.2.1 hA
    refine r_iconst (pc2 := 66) dX12_doesLine_65 rfl ?_
    refine r_istore6 (pc2 := 68) dX12_doesLine_66 rfl rfl ?_
    refine lp_X12_doesLine0 M hS hG hP hR hf hie hm hdx hdy hA rfl (g1 G i).toNat 0 s M (by omega) frQ.rf hQ ho (fun M2 q2 q3 => ⟨rfl, ?_, q3⟩)
    rw [show ((0 : Nat) : Int) = 0 from rfl, Int.zero_mul, Int.zero_mul, Int.add_zero, Int.add_zero] at q2
    rw [qL11 hA]
    exact q2
  by_cases sw11_2 : (gA G i - 10) = 2
  · refine r_tabIn (tgt := 156) dX12_doesLine_11 ⟨by omega, by omega⟩ 2 (by omega) (by omega) rfl (by decide) ?_
    have hA : gA G i = 12 := by omega
    have hV := hLV.2.2.1 hA
    have a1 : M.2.1 324 (5 * i) = g1 G i := hG9.2.2.1 (by omega) (by omega)
    have hin := hf.inn hP hie (Or.inr hA)
    obtain ⟨ax, hax⟩ : ∃ ax, dx + tn 0 (2 * g1 G i) = ax := ⟨_, rfl⟩
    have hax2 := hax
    rw [tn0] at hax2
    refine r_aload0 (pc2 := 157) dX12_doesLine_156 rfl ?_
    refine r_iload1 (pc2 := 158) dX12_doesLine_157 rfl ?_
    refine r_iconst (pc2 := 159) dX12_doesLine_158 rfl ?_
    refine r_iadd (c := ((i + 1 : Nat) : Int)) (pc2 := 160) dX12_doesLine_159 rfl (by omega) ?_
    refine r_aload0 (pc2 := 161) dX12_doesLine_160 rfl ?_
    refine r_getR (pc2 := 164) dX12_doesLine_161 rfl fX12_77 (hK_317 hS) (hR_317_13 hS) ?_
    refine r_iload1 (pc2 := 165) dX12_doesLine_164 rfl ?_
    refine r_iald (z := (((gE G i).toNat : Nat) : Int)) (pc2 := 166) dX12_doesLine_165 rfl (hK_325 hS) i rfl (by omega) hE ?_
    refine r_iload2 (pc2 := 167) dX12_doesLine_166 rfl ?_
    refine r_ifne (tgt := 174) (pc2 := 170) dX12_doesLine_167 rfl (by decide) ⟨by omega, by omega⟩ (fun h9 => absurd h9 (by decide)) (fun _ => ?_)
    refine r_iconst (pc2 := 171) dX12_doesLine_170 rfl ?_
    refine r_goto (tgt := 175) dX12_doesLine_171 (by decide) ?_
    refine r_iload3 (pc2 := 176) dX12_doesLine_175 rfl ?_
    refine r_iload2 (pc2 := 177) dX12_doesLine_176 rfl ?_
    refine r_ifeq (tgt := 193) (pc2 := 180) dX12_doesLine_177 rfl (by decide) ⟨by omega, by omega⟩ (fun _ => ?_) (fun h9 => absurd h9 (by decide))
    refine r_iconst (pc2 := 194) dX12_doesLine_193 rfl ?_
    refine r_aload0 (pc2 := 195) dX12_doesLine_194 rfl ?_
    refine r_getR (pc2 := 198) dX12_doesLine_195 rfl fX12_74 (hK_317 hS) (hR_317_12 hS) ?_
    refine r_iload5 (pc2 := 200) dX12_doesLine_198 rfl ?_
    refine r_iald (z := (g1 G i)) (pc2 := 201) dX12_doesLine_200 rfl (hK_324 hS) (5 * i) rfl (by omega) a1 ?_
    refine r_imul (c := (2 * (g1 G i))) (pc2 := 202) dX12_doesLine_201 rfl rfl ?_
    refine r_iadd (c := ax) (pc2 := 203) dX12_doesLine_202 rfl (by omega) ?_
    refine r_iload4 (pc2 := 205) dX12_doesLine_203 rfl ?_
    have h7 := hR c (i + 1) (gE G i).toNat 1 ax dy s M hS hG hQ ho hin ⟨by omega, by omega⟩ (by decide) (by unfold dxB; omega) (by unfold dxB; omega)
    refine r_cv5 (pc2 := 208) dX12_doesLine_205 rfl vX12_269 (hK_317 hS) (by decide) h7 ?_
    rintro _ M9 ⟨rfl, q2, q3⟩
    show Go (Ct (d + 2 * c + 6)) _ yX12_doesLine cX12_doesLine none 0 0 208 [some (.ref 317), some (.int (iI ((i : Nat) : Int))), some (.int (iI 0)), some (.int (iI dx)), some (.int (iI dy)), some (.int (iI ((5 * i : Nat) : Int))), none] [] M9
    refine r_goto (tgt := 391) dX12_doesLine_208 (by decide) ?_
    refine r_ret dX12_doesLine_391 rfl ?_
    exact ⟨rfl, by rw [qL12 hA, hax]; exact q2, q3⟩
  by_cases sw11_3 : (gA G i - 10) = 3
  · refine r_tabIn (tgt := 391) dX12_doesLine_11 ⟨by omega, by omega⟩ 3 (by omega) (by omega) rfl (by decide) ?_
    have hA : gA G i = 13 := by omega
    refine r_ret dX12_doesLine_391 rfl ?_
    exact ⟨rfl, by rw [qL13 hA]; exact hQ, frQ.rf⟩
  by_cases sw11_4 : (gA G i - 10) = 4
  · refine r_tabIn (tgt := 211) dX12_doesLine_11 ⟨by omega, by omega⟩ 4 (by omega) (by omega) rfl (by decide) ?_
    have hA : gA G i = 14 := by omega
    have hV := hLV.2.2.2.1 hA
    have a2 := hG9.2.2.2.2.1 (Or.inr (Or.inr (Or.inl hA)))
    obtain ⟨k, k1, a1, k3⟩ := hG9.2.2.2.1 hA
    have hin := (hf.us hP hie hA).1
    have hT := hP.1.2.2.2
    have hn := hP.2.1 k (by omega)
    have e1 : (g1 G i).toNat = gL G k := by omega
    rw [e1] at hin
    have a5 := (hG.2.2.2 k k1).2
    have hlk := hP.2.2.2.2 _ hn.2.1
    have hlk1 := hlk.2.1
    have hlk2 := hlk.2.2.1
    have hE3 : M.2.1 325 (gL G k) = (((gE G (gL G k)).toNat : Nat) : Int) := by rw [(hG.2.2.1 _ hn.2.1).2.1]; omega
    have hk2 := hn.2.1
    obtain ⟨ax, hax⟩ : ∃ ax, dx + tn 0 (g2 G i) = ax := ⟨_, rfl⟩
    have hax2 := hax
    rw [tn0] at hax2
    have hV2 := hV.2
    clear hV
    refine r_aload0 (pc2 := 212) dX12_doesLine_211 rfl ?_
    refine r_getR (pc2 := 215) dX12_doesLine_212 rfl fX12_83 (hK_317 hS) (hR_317_16 hS) ?_
    refine r_aload0 (pc2 := 216) dX12_doesLine_215 rfl ?_
    refine r_getR (pc2 := 219) dX12_doesLine_216 rfl fX12_74 (hK_317 hS) (hR_317_12 hS) ?_
    refine r_iload5 (pc2 := 221) dX12_doesLine_219 rfl ?_
    refine r_iald (z := ((k : Nat) : Int)) (pc2 := 222) dX12_doesLine_221 rfl (hK_324 hS) (5 * i) rfl (by omega) a1 ?_
    refine r_iald (z := ((gL G k : Nat) : Int)) (pc2 := 223) dX12_doesLine_222 rfl (hK_327 hS) k rfl (by omega) a5 ?_
    refine r_istore6 (pc2 := 225) dX12_doesLine_223 rfl rfl ?_
    refine r_aload0 (pc2 := 226) dX12_doesLine_225 rfl ?_
    refine r_iload6 (pc2 := 228) dX12_doesLine_226 rfl ?_
    refine r_iconst (pc2 := 229) dX12_doesLine_228 rfl ?_
    refine r_iadd (c := ((gL G k + 1 : Nat) : Int)) (pc2 := 230) dX12_doesLine_229 rfl (by omega) ?_
    refine r_aload0 (pc2 := 231) dX12_doesLine_230 rfl ?_
    refine r_getR (pc2 := 234) dX12_doesLine_231 rfl fX12_77 (hK_317 hS) (hR_317_13 hS) ?_
    refine r_iload6 (pc2 := 236) dX12_doesLine_234 rfl ?_
    refine r_iald (z := (((gE G (gL G k)).toNat : Nat) : Int)) (pc2 := 237) dX12_doesLine_236 rfl (hK_325 hS) (gL G k) rfl (by omega) hE3 ?_
    refine r_iload2 (pc2 := 238) dX12_doesLine_237 rfl ?_
    refine r_iload3 (pc2 := 239) dX12_doesLine_238 rfl ?_
    refine r_iload2 (pc2 := 240) dX12_doesLine_239 rfl ?_
    refine r_ifeq (tgt := 256) (pc2 := 243) dX12_doesLine_240 rfl (by decide) ⟨by omega, by omega⟩ (fun _ => ?_) (fun h9 => absurd h9 (by decide))
    refine r_aload0 (pc2 := 257) dX12_doesLine_256 rfl ?_
    refine r_getR (pc2 := 260) dX12_doesLine_257 rfl fX12_74 (hK_317 hS) (hR_317_12 hS) ?_
    refine r_iload5 (pc2 := 262) dX12_doesLine_260 rfl ?_
    refine r_iconst (pc2 := 263) dX12_doesLine_262 rfl ?_
    refine r_iadd (c := ((5 * i + 1 : Nat) : Int)) (pc2 := 264) dX12_doesLine_263 rfl (by omega) ?_
    refine r_iald (z := (g2 G i)) (pc2 := 265) dX12_doesLine_264 rfl (hK_324 hS) (5 * i + 1) rfl (by omega) a2.1 ?_
    refine r_iadd (c := ax) (pc2 := 266) dX12_doesLine_265 rfl (by omega) ?_
    refine r_iload4 (pc2 := 268) dX12_doesLine_266 rfl ?_
    refine r_aload0 (pc2 := 269) dX12_doesLine_268 rfl ?_
    refine r_getR (pc2 := 272) dX12_doesLine_269 rfl fX12_74 (hK_317 hS) (hR_317_12 hS) ?_
    refine r_iload5 (pc2 := 274) dX12_doesLine_272 rfl ?_
    refine r_iconst (pc2 := 275) dX12_doesLine_274 rfl ?_
    refine r_iadd (c := ((5 * i + 2 : Nat) : Int)) (pc2 := 276) dX12_doesLine_275 rfl (by omega) ?_
    refine r_iald (z := (g3 G i)) (pc2 := 277) dX12_doesLine_276 rfl (hK_324 hS) (5 * i + 2) rfl (by omega) a2.2 ?_
    refine r_iadd (c := (dy + (g3 G i))) (pc2 := 278) dX12_doesLine_277 rfl rfl ?_
    have h7 := hR c (gL G k + 1) (gE G (gL G k)).toNat 0 ax (dy + g3 G i) s M hS hG hQ ho hin ⟨by omega, by omega⟩ (by decide) (by unfold dxB; omega) (by unfold dxB; omega)
    refine r_cv5 (pc2 := 281) dX12_doesLine_278 rfl vX12_269 (hK_317 hS) (by decide) h7 ?_
    rintro _ M9 ⟨rfl, q2, q3⟩
    show Go (Ct (d + 2 * c + 6)) _ yX12_doesLine cX12_doesLine none 0 0 281 [some (.ref 317), some (.int (iI ((i : Nat) : Int))), some (.int (iI 0)), some (.int (iI dx)), some (.int (iI dy)), some (.int (iI ((5 * i : Nat) : Int))), some (.int (iI ((gL G k : Nat) : Int)))] [] M9
    refine r_goto (tgt := 391) dX12_doesLine_281 (by decide) ?_
    refine r_ret dX12_doesLine_391 rfl ?_
    exact ⟨rfl, by rw [qL14 hA, e1, hax]; exact q2, q3⟩
  by_cases sw11_5 : (gA G i - 10) = 5
  · refine r_tabIn (tgt := 284) dX12_doesLine_11 ⟨by omega, by omega⟩ 5 (by omega) (by omega) rfl (by decide) ?_
    have hA : gA G i = 15 := by omega
    have hV := hLV.2.2.2.2.1 hA
    have a1 : M.2.1 324 (5 * i) = (((g1 G i).toNat : Nat) : Int) := by rw [hG9.2.2.1 (by omega) (by omega)]; omega
    have a2 := hG9.2.2.2.2.2.1 hA
    by_cases hm1 : g2 G i = -1
    · rw [if_pos hm1] at a2
      refine r_aload0 (pc2 := 285) dX12_doesLine_284 rfl ?_
      refine r_getR (pc2 := 288) dX12_doesLine_285 rfl fX12_95 (hK_317 hS) (hR_317_20 hS) ?_
      refine r_aload0 (pc2 := 289) dX12_doesLine_288 rfl ?_
      refine r_getR (pc2 := 292) dX12_doesLine_289 rfl fX12_74 (hK_317 hS) (hR_317_12 hS) ?_
      refine r_iload5 (pc2 := 294) dX12_doesLine_292 rfl ?_
      refine r_iald (z := (((g1 G i).toNat : Nat) : Int)) (pc2 := 295) dX12_doesLine_294 rfl (hK_324 hS) (5 * i) rfl (by omega) a1 ?_
      refine r_aload0 (pc2 := 296) dX12_doesLine_295 rfl ?_
      refine r_getR (pc2 := 299) dX12_doesLine_296 rfl fX12_74 (hK_317 hS) (hR_317_12 hS) ?_
      refine r_iload5 (pc2 := 301) dX12_doesLine_299 rfl ?_
      refine r_iconst (pc2 := 302) dX12_doesLine_301 rfl ?_
      refine r_iadd (c := ((5 * i + 1 : Nat) : Int)) (pc2 := 303) dX12_doesLine_302 rfl (by omega) ?_
      refine r_iald (z := 4) (pc2 := 304) dX12_doesLine_303 rfl (hK_324 hS) (5 * i + 1) rfl (by omega) a2 ?_
      refine r_iconst (pc2 := 305) dX12_doesLine_304 rfl ?_
      refine r_icne (tgt := 312) (pc2 := 308) dX12_doesLine_305 rfl (by decide) ⟨by omega, by omega⟩ ⟨by omega, by omega⟩ (fun h9 => absurd h9 (by decide)) (fun _ => ?_)
      refine r_iconst (pc2 := 309) dX12_doesLine_308 rfl ?_
      refine r_goto (tgt := 321) dX12_doesLine_309 (by decide) ?_
      refine r_iast (z := (-1)) (pc2 := 322) dX12_doesLine_321 rfl (hK_331 hS) (by decide) ((g1 G i).toNat) rfl (by omega) ?_
      refine r_goto (tgt := 391) dX12_doesLine_322 (by decide) ?_
      refine r_ret dX12_doesLine_391 rfl ?_
      exact ⟨rfl, by rw [qL15 hA, hm1]; exact hQ.lane, frQ.rf.I (by unfold okQ; omega)⟩
    · rw [if_neg hm1] at a2
      refine r_aload0 (pc2 := 285) dX12_doesLine_284 rfl ?_
      refine r_getR (pc2 := 288) dX12_doesLine_285 rfl fX12_95 (hK_317 hS) (hR_317_20 hS) ?_
      refine r_aload0 (pc2 := 289) dX12_doesLine_288 rfl ?_
      refine r_getR (pc2 := 292) dX12_doesLine_289 rfl fX12_74 (hK_317 hS) (hR_317_12 hS) ?_
      refine r_iload5 (pc2 := 294) dX12_doesLine_292 rfl ?_
      refine r_iald (z := (((g1 G i).toNat : Nat) : Int)) (pc2 := 295) dX12_doesLine_294 rfl (hK_324 hS) (5 * i) rfl (by omega) a1 ?_
      refine r_aload0 (pc2 := 296) dX12_doesLine_295 rfl ?_
      refine r_getR (pc2 := 299) dX12_doesLine_296 rfl fX12_74 (hK_317 hS) (hR_317_12 hS) ?_
      refine r_iload5 (pc2 := 301) dX12_doesLine_299 rfl ?_
      refine r_iconst (pc2 := 302) dX12_doesLine_301 rfl ?_
      refine r_iadd (c := ((5 * i + 1 : Nat) : Int)) (pc2 := 303) dX12_doesLine_302 rfl (by omega) ?_
      refine r_iald (z := (g2 G i)) (pc2 := 304) dX12_doesLine_303 rfl (hK_324 hS) (5 * i + 1) rfl (by omega) a2 ?_
      refine r_iconst (pc2 := 305) dX12_doesLine_304 rfl ?_
      refine r_icne (tgt := 312) (pc2 := 308) dX12_doesLine_305 rfl (by decide) ⟨by omega, by omega⟩ ⟨by omega, by omega⟩ (fun b_305 => ?_) (fun b_305 => ?_)
      · refine r_aload0 (pc2 := 313) dX12_doesLine_312 rfl ?_
        refine r_getR (pc2 := 316) dX12_doesLine_313 rfl fX12_74 (hK_317 hS) (hR_317_12 hS) ?_
        refine r_iload5 (pc2 := 318) dX12_doesLine_316 rfl ?_
        refine r_iconst (pc2 := 319) dX12_doesLine_318 rfl ?_
        refine r_iadd (c := ((5 * i + 1 : Nat) : Int)) (pc2 := 320) dX12_doesLine_319 rfl (by omega) ?_
        refine r_iald (z := (g2 G i)) (pc2 := 321) dX12_doesLine_320 rfl (hK_324 hS) (5 * i + 1) rfl (by omega) a2 ?_
        refine r_iast (z := (g2 G i)) (pc2 := 322) dX12_doesLine_321 rfl (hK_331 hS) (by decide) ((g1 G i).toNat) rfl (by omega) ?_
        refine r_goto (tgt := 391) dX12_doesLine_322 (by decide) ?_
        refine r_ret dX12_doesLine_391 rfl ?_
        exact ⟨rfl, by rw [qL15 hA]; exact hQ.lane, frQ.rf.I (by unfold okQ; omega)⟩
      · refine r_iconst (pc2 := 309) dX12_doesLine_308 rfl ?_
        refine r_goto (tgt := 321) dX12_doesLine_309 (by decide) ?_
        refine r_iast (z := (-1)) (pc2 := 322) dX12_doesLine_321 rfl (hK_331 hS) (by decide) ((g1 G i).toNat) rfl (by omega) ?_
        refine r_goto (tgt := 391) dX12_doesLine_322 (by decide) ?_
        refine r_ret dX12_doesLine_391 rfl ?_
        exact absurd b_305 (by omega)
  by_cases sw11_6 : (gA G i - 10) = 6
  · refine r_tabIn (tgt := 325) dX12_doesLine_11 ⟨by omega, by omega⟩ 6 (by omega) (by omega) rfl (by decide) ?_
    have hA : gA G i = 16 := by omega
    have hV := hLV.2.2.2.2.2 hA
    have a1 : M.2.1 324 (5 * i) = (((g1 G i).toNat : Nat) : Int) := by rw [hG9.2.2.1 (by omega) (by omega)]; omega
    have a2 := hG9.2.2.2.2.1 (Or.inr (Or.inr (Or.inr hA)))
    have a3 := hG9.2.2.2.2.2.2 (Or.inr hA)
    have a21 : M.2.1 324 (5 * i + 1) = (((g2 G i).toNat : Nat) : Int) := by rw [a2.1]; omega
    refine r_aload0 (pc2 := 326) dX12_doesLine_325 rfl ?_
    refine r_getR (pc2 := 329) dX12_doesLine_326 rfl fX12_98 (hK_317 hS) (hR_317_21 hS) ?_
    refine r_aload0 (pc2 := 330) dX12_doesLine_329 rfl ?_
    refine r_getR (pc2 := 333) dX12_doesLine_330 rfl fX12_74 (hK_317 hS) (hR_317_12 hS) ?_
    refine r_iload5 (pc2 := 335) dX12_doesLine_333 rfl ?_
    refine r_iald (z := (((g1 G i).toNat : Nat) : Int)) (pc2 := 336) dX12_doesLine_335 rfl (hK_324 hS) (5 * i) rfl (by omega) a1 ?_
    refine r_aload0 (pc2 := 337) dX12_doesLine_336 rfl ?_
    refine r_getR (pc2 := 340) dX12_doesLine_337 rfl fX12_74 (hK_317 hS) (hR_317_12 hS) ?_
    refine r_iload5 (pc2 := 342) dX12_doesLine_340 rfl ?_
    refine r_iconst (pc2 := 343) dX12_doesLine_342 rfl ?_
    refine r_iadd (c := ((5 * i + 1 : Nat) : Int)) (pc2 := 344) dX12_doesLine_343 rfl (by omega) ?_
    refine r_iald (z := (((g2 G i).toNat : Nat) : Int)) (pc2 := 345) dX12_doesLine_344 rfl (hK_324 hS) (5 * i + 1) rfl (by omega) a21 ?_
    refine r_iast (z := (((g2 G i).toNat : Nat) : Int)) (pc2 := 346) dX12_doesLine_345 rfl (hK_332 hS) (by decide) ((g1 G i).toNat) rfl (by omega) ?_
    refine r_aload0 (pc2 := 347) dX12_doesLine_346 rfl ?_
    refine r_getR (pc2 := 350) dX12_doesLine_347 rfl fX12_101 (hK_317 hS) (hR_317_22 hS) ?_
    refine r_aload0 (pc2 := 351) dX12_doesLine_350 rfl ?_
    refine r_getR (pc2 := 354) dX12_doesLine_351 rfl fX12_74 (hK_317 hS) (hR_317_12 hS) ?_
    refine r_iload5 (pc2 := 356) dX12_doesLine_354 rfl ?_
    refine r_iald (z := (((g1 G i).toNat : Nat) : Int)) (pc2 := 357) dX12_doesLine_356 rfl (hK_324 hS) (5 * i) rfl (by omega) a1 ?_
    refine r_aload0 (pc2 := 358) dX12_doesLine_357 rfl ?_
    refine r_getR (pc2 := 361) dX12_doesLine_358 rfl fX12_74 (hK_317 hS) (hR_317_12 hS) ?_
    refine r_iload5 (pc2 := 363) dX12_doesLine_361 rfl ?_
    refine r_iconst (pc2 := 364) dX12_doesLine_363 rfl ?_
    refine r_iadd (c := ((5 * i + 2 : Nat) : Int)) (pc2 := 365) dX12_doesLine_364 rfl (by omega) ?_
    refine r_iald (z := (g3 G i)) (pc2 := 366) dX12_doesLine_365 rfl (hK_324 hS) (5 * i + 2) rfl (by omega) a2.2 ?_
    refine r_iast (z := (g3 G i)) (pc2 := 367) dX12_doesLine_366 rfl (hK_333 hS) (by decide) ((g1 G i).toNat) rfl (by omega) ?_
    refine r_aload0 (pc2 := 368) dX12_doesLine_367 rfl ?_
    refine r_getR (pc2 := 371) dX12_doesLine_368 rfl fX12_104 (hK_317 hS) (hR_317_23 hS) ?_
    refine r_aload0 (pc2 := 372) dX12_doesLine_371 rfl ?_
    refine r_getR (pc2 := 375) dX12_doesLine_372 rfl fX12_74 (hK_317 hS) (hR_317_12 hS) ?_
    refine r_iload5 (pc2 := 377) dX12_doesLine_375 rfl ?_
    refine r_iald (z := (((g1 G i).toNat : Nat) : Int)) (pc2 := 378) dX12_doesLine_377 rfl (hK_324 hS) (5 * i) rfl (by omega) a1 ?_
    refine r_aload0 (pc2 := 379) dX12_doesLine_378 rfl ?_
    refine r_getR (pc2 := 382) dX12_doesLine_379 rfl fX12_74 (hK_317 hS) (hR_317_12 hS) ?_
    refine r_iload5 (pc2 := 384) dX12_doesLine_382 rfl ?_
    refine r_iconst (pc2 := 385) dX12_doesLine_384 rfl ?_
    refine r_iadd (c := ((5 * i + 3 : Nat) : Int)) (pc2 := 386) dX12_doesLine_385 rfl (by omega) ?_
    refine r_iald (z := (g4 G i)) (pc2 := 387) dX12_doesLine_386 rfl (hK_324 hS) (5 * i + 3) rfl (by omega) a3 ?_
    refine r_iast (z := (g4 G i)) (pc2 := 388) dX12_doesLine_387 rfl (hK_334 hS) (by decide) ((g1 G i).toNat) rfl (by omega) ?_
    refine r_goto (tgt := 391) dX12_doesLine_388 (by decide) ?_
    refine r_ret dX12_doesLine_391 rfl ?_
    exact ⟨rfl, by rw [qL16 hA]; exact hQ.hop, ((frQ.rf.I (by unfold okQ; omega)).I (by unfold okQ; omega)).I (by unfold okQ; omega)⟩
  refine r_tabOut (tgt := 391) dX12_doesLine_11 ⟨by omega, by omega⟩ (by omega) (by decide) ?_
  refine r_ret dX12_doesLine_391 rfl ?_
  exact absurd hA9 (by omega)
set_option maxHeartbeats 8000000 in
theorem lp_X12_doesLine1 {G : gPr} {u ns : Nat → Nat} {d f c i e : Nat} {dx dy SX : Int} {Q : pQ} (M0 : pM) (hS0 : sOk M0.1) (hG0 : MG M0 G) (hP : PV G u ns) (hR : DOp G u ns d f) (hf : frm G u ns i e (c + 1)) (hie : i < e) (hm : 126 * (c + 1) + (e - i) < f + 1) (hdx : dxB (c + 1) dx) (hdy : dxB (c + 1) dy) (hA : gA G i = 11) (hSX : tn 1 (g2 G i) = SX) :
    ∀ (n k : Nat) (s : qS) (M : pM), k + n = (g1 G i).toNat → frQ M0 M → MQq M s → qOk2 s → (∀ M2, MQq M2 (agn (fun ax ay s => dos G f (i + 1) (gE G i).toNat 1 ax ay s) SX (g3 G i) n (dx + ((k : Nat) : Int) * SX) (dy + ((k : Nat) : Int) * g3 G i) s) → frQ M0 M2 → Q none M2) →
      Go (Ct (d + 2 * c + 6)) Q yX12_doesLine cX12_doesLine none 0 0 68 [some (.ref 317), some (.int (iI ((i : Nat) : Int))), some (.int (iI 1)), some (.int (iI dx)), some (.int (iI dy)), some (.int (iI ((5 * i : Nat) : Int))), some (.int (iI ((k : Nat) : Int)))] [] M := by
  have his : i < gS G := by have := hf.1; omega
  have hl := hP.2.2.2.2 i his
  have hL := hl.2.2.2.1.2.1 hA
  have h125 := hP.1.1
  have hE1 := hl.2.1
  have hE2 := hl.2.2.1
  have hin := hf.inn hP hie (Or.inl hA)
  rw [tn1] at hSX
  have hSb : -12 ≤ SX ∧ SX ≤ 12 := by omega
  have hc := hin.2.2
  unfold dxB at hdx hdy
  intro n
  induction n with
  | zero =>
    intro k s M hk hF hQ ho hE9
    have hS := hF.ok hS0
    have hG := hG0.fq hF
    have ho9 := ho.1.2.2.2.2
    have hG9 := hG.2.2.1 i his
    have a1 : M.2.1 324 (5 * i) = g1 G i := hG9.2.2.1 (by omega) (by omega)
    have a2 := (hG9.2.2.2.2.1 (Or.inr (Or.inl hA))).1
    have a3 := (hG9.2.2.2.2.1 (Or.inr (Or.inl hA))).2
    have hE : M.2.1 325 i = (((gE G i).toNat : Nat) : Int) := by rw [hG9.2.1]; omega
    refine r_iload6 (pc2 := 70) dX12_doesLine_68 rfl ?_
    refine r_aload0 (pc2 := 71) dX12_doesLine_70 rfl ?_
    refine r_getR (pc2 := 74) dX12_doesLine_71 rfl fX12_74 (hK_317 hS) (hR_317_12 hS) ?_
    refine r_iload5 (pc2 := 76) dX12_doesLine_74 rfl ?_
    refine r_iald (z := (g1 G i)) (pc2 := 77) dX12_doesLine_76 rfl (hK_324 hS) (5 * i) rfl (by omega) a1 ?_
    refine r_icge (tgt := 153) (pc2 := 80) dX12_doesLine_77 rfl (by decide) ⟨by omega, by omega⟩ ⟨by omega, by omega⟩ (fun b_77 => ?_) (fun b_77 => ?_)
    · refine r_goto (tgt := 391) dX12_doesLine_153 (by decide) ?_
      refine r_ret dX12_doesLine_391 rfl ?_
      exact hE9 M hQ hF
    · exact absurd b_77 (by omega)
  | succ n ih =>
    intro k s M hk hF hQ ho hE9
    have hS := hF.ok hS0
    have hG := hG0.fq hF
    have ho9 := ho.1.2.2.2.2
    have hG9 := hG.2.2.1 i his
    have a1 : M.2.1 324 (5 * i) = g1 G i := hG9.2.2.1 (by omega) (by omega)
    have a2 := (hG9.2.2.2.2.1 (Or.inr (Or.inl hA))).1
    have a3 := (hG9.2.2.2.2.1 (Or.inr (Or.inl hA))).2
    have hE : M.2.1 325 i = (((gE G i).toNat : Nat) : Int) := by rw [hG9.2.1]; omega
    have p1 := mul_144 (k := ((k : Nat) : Int)) (z := SX) ⟨by omega, by omega⟩ hSb
    have p2 := mul_144 (k := ((k : Nat) : Int)) (z := g3 G i) ⟨by omega, by omega⟩ hL.2.2
    have q1 : ((k + 1 : Nat) : Int) * SX = ((k : Nat) : Int) * SX + SX := by rw [show ((k + 1 : Nat) : Int) = (k : Int) + 1 from rfl, Int.add_mul, Int.one_mul]
    have q2 : ((k + 1 : Nat) : Int) * g3 G i = ((k : Nat) : Int) * g3 G i + g3 G i := by rw [show ((k + 1 : Nat) : Int) = (k : Int) + 1 from rfl, Int.add_mul, Int.one_mul]
    refine r_iload6 (pc2 := 70) dX12_doesLine_68 rfl ?_
    refine r_aload0 (pc2 := 71) dX12_doesLine_70 rfl ?_
    refine r_getR (pc2 := 74) dX12_doesLine_71 rfl fX12_74 (hK_317 hS) (hR_317_12 hS) ?_
    refine r_iload5 (pc2 := 76) dX12_doesLine_74 rfl ?_
    refine r_iald (z := (g1 G i)) (pc2 := 77) dX12_doesLine_76 rfl (hK_324 hS) (5 * i) rfl (by omega) a1 ?_
    refine r_icge (tgt := 153) (pc2 := 80) dX12_doesLine_77 rfl (by decide) ⟨by omega, by omega⟩ ⟨by omega, by omega⟩ (fun b_77 => ?_) (fun b_77 => ?_)
    · refine r_goto (tgt := 391) dX12_doesLine_153 (by decide) ?_
      refine r_ret dX12_doesLine_391 rfl ?_
      exact absurd b_77 (by omega)
    · refine r_aload0 (pc2 := 81) dX12_doesLine_80 rfl ?_
      refine r_getI (z := s.2.2.2.2) (pc2 := 84) dX12_doesLine_81 rfl (Or.inl fX12_260) (hK_317 hS) hQ.2.1 ?_
      refine r_ifne (tgt := 153) (pc2 := 87) dX12_doesLine_84 rfl (by decide) ⟨by omega, by omega⟩ (fun b_84 => ?_) (fun b_84 => ?_)
      · refine r_goto (tgt := 391) dX12_doesLine_153 (by decide) ?_
        refine r_ret dX12_doesLine_391 rfl ?_
        refine hE9 M ?_ hF
        rw [agn, if_neg b_84]
        exact hQ
      · refine r_aload0 (pc2 := 88) dX12_doesLine_87 rfl ?_
        refine r_iload1 (pc2 := 89) dX12_doesLine_88 rfl ?_
        refine r_iconst (pc2 := 90) dX12_doesLine_89 rfl ?_
        refine r_iadd (c := ((i + 1 : Nat) : Int)) (pc2 := 91) dX12_doesLine_90 rfl (by omega) ?_
        refine r_aload0 (pc2 := 92) dX12_doesLine_91 rfl ?_
        refine r_getR (pc2 := 95) dX12_doesLine_92 rfl fX12_77 (hK_317 hS) (hR_317_13 hS) ?_
        refine r_iload1 (pc2 := 96) dX12_doesLine_95 rfl ?_
        refine r_iald (z := (((gE G i).toNat : Nat) : Int)) (pc2 := 97) dX12_doesLine_96 rfl (hK_325 hS) i rfl (by omega) hE ?_
        refine r_iload2 (pc2 := 98) dX12_doesLine_97 rfl ?_
        refine r_iload3 (pc2 := 99) dX12_doesLine_98 rfl ?_
        refine r_iload6 (pc2 := 101) dX12_doesLine_99 rfl ?_
        refine r_iload2 (pc2 := 102) dX12_doesLine_101 rfl ?_
        refine r_ifeq (tgt := 118) (pc2 := 105) dX12_doesLine_102 rfl (by decide) ⟨by omega, by omega⟩ (fun h9 => absurd h9 (by decide)) (fun _ => ?_)
        refine r_aload0 (pc2 := 106) dX12_doesLine_105 rfl ?_
        refine r_getR (pc2 := 109) dX12_doesLine_106 rfl fX12_74 (hK_317 hS) (hR_317_12 hS) ?_
        refine r_iload5 (pc2 := 111) dX12_doesLine_109 rfl ?_
        refine r_iconst (pc2 := 112) dX12_doesLine_111 rfl ?_
        refine r_iadd (c := ((5 * i + 1 : Nat) : Int)) (pc2 := 113) dX12_doesLine_112 rfl (by omega) ?_
        refine r_iald (z := (g2 G i)) (pc2 := 114) dX12_doesLine_113 rfl (hK_324 hS) (5 * i + 1) rfl (by omega) a2 ?_
        refine r_ineg (c := SX) (pc2 := 115) dX12_doesLine_114 rfl hSX ?_
        refine r_goto (tgt := 127) dX12_doesLine_115 (by decide) ?_
        refine r_imul (c := (((k : Nat) : Int) * SX)) (pc2 := 128) dX12_doesLine_127 rfl rfl ?_
        refine r_iadd (c := (dx + (((k : Nat) : Int) * SX))) (pc2 := 129) dX12_doesLine_128 rfl rfl ?_
        refine r_iload4 (pc2 := 131) dX12_doesLine_129 rfl ?_
        refine r_iload6 (pc2 := 133) dX12_doesLine_131 rfl ?_
        refine r_aload0 (pc2 := 134) dX12_doesLine_133 rfl ?_
        refine r_getR (pc2 := 137) dX12_doesLine_134 rfl fX12_74 (hK_317 hS) (hR_317_12 hS) ?_
        refine r_iload5 (pc2 := 139) dX12_doesLine_137 rfl ?_
        refine r_iconst (pc2 := 140) dX12_doesLine_139 rfl ?_
        refine r_iadd (c := ((5 * i + 2 : Nat) : Int)) (pc2 := 141) dX12_doesLine_140 rfl (by omega) ?_
        refine r_iald (z := (g3 G i)) (pc2 := 142) dX12_doesLine_141 rfl (hK_324 hS) (5 * i + 2) rfl (by omega) a3 ?_
        refine r_imul (c := (((k : Nat) : Int) * (g3 G i))) (pc2 := 143) dX12_doesLine_142 rfl rfl ?_
        refine r_iadd (c := (dy + (((k : Nat) : Int) * (g3 G i)))) (pc2 := 144) dX12_doesLine_143 rfl rfl ?_
        have h7 := hR c (i + 1) (gE G i).toNat 1 (dx + ((k : Nat) : Int) * SX) (dy + ((k : Nat) : Int) * g3 G i) s M hS hG hQ ho hin ⟨by omega, by omega⟩ (by decide) (by unfold dxB; omega) (by unfold dxB; omega)
        refine r_cv5 (pc2 := 147) dX12_doesLine_144 rfl vX12_269 (hK_317 hS) (by decide) h7 ?_
        rintro _ M9 ⟨rfl, h8, h9⟩
        show Go (Ct (d + 2 * c + 6)) _ yX12_doesLine cX12_doesLine none 0 0 147 [some (.ref 317), some (.int (iI ((i : Nat) : Int))), some (.int (iI 1)), some (.int (iI dx)), some (.int (iI dy)), some (.int (iI ((5 * i : Nat) : Int))), some (.int (iI ((k : Nat) : Int)))] [] M9
        refine r_iinc6 (z := ((k + 1 : Nat) : Int)) (pc2 := 150) dX12_doesLine_147 rfl (by omega) rfl ?_
        refine r_goto (tgt := 68) dX12_doesLine_150 (by decide) ?_
        refine ih (k + 1) _ M9 (by omega) (hF.tr h9) h8 (dos_ok hP _ _ _ _ _ _ _ (by omega) ho) (fun M2 g1 g2 => hE9 M2 ?_ g2)
        rw [agn, if_pos (by omega)]
        rw [q1, q2, ← Int.add_assoc, ← Int.add_assoc] at g1
        exact g1
set_option maxHeartbeats 8000000 in
theorem c_X12_doesLine1 {G : gPr} {u ns : Nat → Nat} {d f c i e : Nat} {dx dy : Int} {s : qS} {M : pM} (hP : PV G u ns) (hR : DOp G u ns d f) (hf : frm G u ns i e (c + 1)) (hie : i < e) (hm : 126 * (c + 1) + (e - i) < f + 1) (hdx : dxB (c + 1) dx) (hdy : dxB (c + 1) dy) (hS : sOk M.1) (hG : MG M G) (hQ : MQq M s) (ho : qOk2 s) (h0 : s.2.2.2.2 = 0) (hld : s.2.2.2.1 < s.2.2.1) : Ct (d + 2 * c + 7) 0 0 yX12_doesLine [.ref 317, .int (iI ((i : Nat) : Int)), .int (iI 1), .int (iI dx), .int (iI dy)] M (fun v M2 => v = none ∧ MQq M2 (qLine G (fun a b m2 ax ay s2 => dos G f a b m2 ax ay s2) i 1 dx dy s) ∧ frQ M M2) := by
  refine ct_in (d := d + 2 * c + 6) kX12_doesLine rfl (by decide) (Nat.le_of_ble_eq_true rfl) (by decide) ?_
  show Go (Ct (d + 2 * c + 6)) _ yX12_doesLine cX12_doesLine none 0 0 0 [some (.ref 317), some (.int (iI ((i : Nat) : Int))), some (.int (iI 1)), some (.int (iI dx)), some (.int (iI dy)), none, none] [] M
  have his : i < gS G := by have := hf.1; omega
  have hl := hP.2.2.2.2 i his
  have hA9 := hl.1
  have hLV := hl.2.2.2.1
  have h125 := hP.1.1
  have hE1 := hl.2.1
  have hE2 := hl.2.2.1
  have hG9 := hG.2.2.1 i his
  have hc := hf.2.2
  have hE : M.2.1 325 i = (((gE G i).toNat : Nat) : Int) := by rw [hG9.2.1]; omega
  have hdx2 := hdx
  have hdy2 := hdy
  unfold dxB at hdx2 hdy2
  refine r_iconst (pc2 := 1) dX12_doesLine_0 rfl ?_
  refine r_iload1 (pc2 := 2) dX12_doesLine_1 rfl ?_
  refine r_imul (c := ((5 * i : Nat) : Int)) (pc2 := 3) dX12_doesLine_2 rfl (by omega) ?_
  refine r_istore5 (pc2 := 5) dX12_doesLine_3 rfl rfl ?_
  refine r_aload0 (pc2 := 6) dX12_doesLine_5 rfl ?_
  refine r_getR (pc2 := 9) dX12_doesLine_6 rfl fX12_71 (hK_317 hS) (hR_317_11 hS) ?_
  refine r_iload1 (pc2 := 10) dX12_doesLine_9 rfl ?_
  refine r_iald (z := (gA G i - 10)) (pc2 := 11) dX12_doesLine_10 rfl (hK_323 hS) i rfl (by omega) hG9.1 ?_
  by_cases sw11_0 : (gA G i - 10) = 0
  · refine r_tabIn (tgt := 52) dX12_doesLine_11 ⟨by omega, by omega⟩ 0 (by omega) (by omega) rfl (by decide) ?_
    have hA : gA G i = 10 := by omega
    have hV := hLV.1 hA
    have a2 := hG9.2.2.2.2.1 (Or.inl hA)
    have hz : 0 ≤ g2 G i ∧ g2 G i ≤ 9 := by
      by_cases d6 : g1 G i = 6
      · have := hV.2.2.2.2.1 d6; omega
      · by_cases d7 : g1 G i = 7
        · have := hV.2.2.2.2.2.1 d7; omega
        · by_cases d4 : g1 G i = 4 ∨ g1 G i = 9
          · have := hV.2.2.2.1 d4; omega
          · have := hV.2.2.2.2.2.2 (by omega) (by omega) d6 d7; omega
    refine r_aload0 (pc2 := 53) dX12_doesLine_52 rfl ?_
    refine r_iload5 (pc2 := 55) dX12_doesLine_53 rfl ?_
    refine r_iload2 (pc2 := 56) dX12_doesLine_55 rfl ?_
    refine r_iload3 (pc2 := 57) dX12_doesLine_56 rfl ?_
    refine r_iload4 (pc2 := 59) dX12_doesLine_57 rfl ?_
    refine r_cv4 (pc2 := 62) dX12_doesLine_59 rfl vX12_286 (hK_317 hS) (by decide) (c_X12_puts1 (d := d + 2 * c + 2) (i := i) (X := (-g3 G i) + dx) (Y := g4 G i + dy) hS hQ ho.1 (by omega) (hG9.2.2.1 (by omega) (by omega)) a2.1 a2.2 (hG9.2.2.2.2.2.2 (Or.inl hA)) hV.1 hz rfl rfl ⟨by omega, by omega⟩ ⟨by omega, by omega⟩ rfl) ?_
    rintro _ M9 ⟨rfl, q2, q3⟩
    show Go (Ct (d + 2 * c + 6)) _ yX12_doesLine cX12_doesLine none 0 0 62 [some (.ref 317), some (.int (iI ((i : Nat) : Int))), some (.int (iI 1)), some (.int (iI dx)), some (.int (iI dy)), some (.int (iI ((5 * i : Nat) : Int))), none] [] M9
    refine r_goto (tgt := 391) dX12_doesLine_62 (by decide) ?_
    refine r_ret dX12_doesLine_391 rfl ?_
    exact ⟨rfl, by rw [qL10 hA, tn1]; exact q2, q3⟩
  by_cases sw11_1 : (gA G i - 10) = 1
  · refine r_tabIn (tgt := 65) dX12_doesLine_11 ⟨by omega, by omega⟩ 1 (by omega) (by omega) rfl (by decide) ?_
    have hA : gA G i = 11 := by omega
    have hV := hLV.2.1 hA
    refine r_iconst (pc2 := 66) dX12_doesLine_65 rfl ?_
    refine r_istore6 (pc2 := 68) dX12_doesLine_66 rfl rfl ?_
    refine lp_X12_doesLine1 M hS hG hP hR hf hie hm hdx hdy hA rfl (g1 G i).toNat 0 s M (by omega) frQ.rf hQ ho (fun M2 q2 q3 => ⟨rfl, ?_, q3⟩)
    rw [show ((0 : Nat) : Int) = 0 from rfl, Int.zero_mul, Int.zero_mul, Int.add_zero, Int.add_zero] at q2
    rw [qL11 hA]
    exact q2
  by_cases sw11_2 : (gA G i - 10) = 2
  · refine r_tabIn (tgt := 156) dX12_doesLine_11 ⟨by omega, by omega⟩ 2 (by omega) (by omega) rfl (by decide) ?_
    have hA : gA G i = 12 := by omega
    have hV := hLV.2.2.1 hA
    have a1 : M.2.1 324 (5 * i) = g1 G i := hG9.2.2.1 (by omega) (by omega)
    have hin := hf.inn hP hie (Or.inr hA)
    obtain ⟨ax, hax⟩ : ∃ ax, dx + tn 1 (2 * g1 G i) = ax := ⟨_, rfl⟩
    have hax2 := hax
    rw [tn1] at hax2
    refine r_aload0 (pc2 := 157) dX12_doesLine_156 rfl ?_
    refine r_iload1 (pc2 := 158) dX12_doesLine_157 rfl ?_
    refine r_iconst (pc2 := 159) dX12_doesLine_158 rfl ?_
    refine r_iadd (c := ((i + 1 : Nat) : Int)) (pc2 := 160) dX12_doesLine_159 rfl (by omega) ?_
    refine r_aload0 (pc2 := 161) dX12_doesLine_160 rfl ?_
    refine r_getR (pc2 := 164) dX12_doesLine_161 rfl fX12_77 (hK_317 hS) (hR_317_13 hS) ?_
    refine r_iload1 (pc2 := 165) dX12_doesLine_164 rfl ?_
    refine r_iald (z := (((gE G i).toNat : Nat) : Int)) (pc2 := 166) dX12_doesLine_165 rfl (hK_325 hS) i rfl (by omega) hE ?_
    refine r_iload2 (pc2 := 167) dX12_doesLine_166 rfl ?_
    refine r_ifne (tgt := 174) (pc2 := 170) dX12_doesLine_167 rfl (by decide) ⟨by omega, by omega⟩ (fun _ => ?_) (fun h9 => absurd h9 (by decide))
    refine r_iconst (pc2 := 175) dX12_doesLine_174 rfl ?_
    refine r_iload3 (pc2 := 176) dX12_doesLine_175 rfl ?_
    refine r_iload2 (pc2 := 177) dX12_doesLine_176 rfl ?_
    refine r_ifeq (tgt := 193) (pc2 := 180) dX12_doesLine_177 rfl (by decide) ⟨by omega, by omega⟩ (fun h9 => absurd h9 (by decide)) (fun _ => ?_)
    refine r_bipush (pc2 := 182) dX12_doesLine_180 rfl (by decide) (by decide) ?_
    refine r_aload0 (pc2 := 183) dX12_doesLine_182 rfl ?_
    refine r_getR (pc2 := 186) dX12_doesLine_183 rfl fX12_74 (hK_317 hS) (hR_317_12 hS) ?_
    refine r_iload5 (pc2 := 188) dX12_doesLine_186 rfl ?_
    refine r_iald (z := (g1 G i)) (pc2 := 189) dX12_doesLine_188 rfl (hK_324 hS) (5 * i) rfl (by omega) a1 ?_
    refine r_imul (c := ((-2) * (g1 G i))) (pc2 := 190) dX12_doesLine_189 rfl rfl ?_
    refine r_goto (tgt := 202) dX12_doesLine_190 (by decide) ?_
    refine r_iadd (c := ax) (pc2 := 203) dX12_doesLine_202 rfl (by omega) ?_
    refine r_iload4 (pc2 := 205) dX12_doesLine_203 rfl ?_
    have h7 := hR c (i + 1) (gE G i).toNat 0 ax dy s M hS hG hQ ho hin ⟨by omega, by omega⟩ (by decide) (by unfold dxB; omega) (by unfold dxB; omega)
    refine r_cv5 (pc2 := 208) dX12_doesLine_205 rfl vX12_269 (hK_317 hS) (by decide) h7 ?_
    rintro _ M9 ⟨rfl, q2, q3⟩
    show Go (Ct (d + 2 * c + 6)) _ yX12_doesLine cX12_doesLine none 0 0 208 [some (.ref 317), some (.int (iI ((i : Nat) : Int))), some (.int (iI 1)), some (.int (iI dx)), some (.int (iI dy)), some (.int (iI ((5 * i : Nat) : Int))), none] [] M9
    refine r_goto (tgt := 391) dX12_doesLine_208 (by decide) ?_
    refine r_ret dX12_doesLine_391 rfl ?_
    exact ⟨rfl, by rw [qL12 hA, hax]; exact q2, q3⟩
  by_cases sw11_3 : (gA G i - 10) = 3
  · refine r_tabIn (tgt := 391) dX12_doesLine_11 ⟨by omega, by omega⟩ 3 (by omega) (by omega) rfl (by decide) ?_
    have hA : gA G i = 13 := by omega
    refine r_ret dX12_doesLine_391 rfl ?_
    exact ⟨rfl, by rw [qL13 hA]; exact hQ, frQ.rf⟩
  by_cases sw11_4 : (gA G i - 10) = 4
  · refine r_tabIn (tgt := 211) dX12_doesLine_11 ⟨by omega, by omega⟩ 4 (by omega) (by omega) rfl (by decide) ?_
    have hA : gA G i = 14 := by omega
    have hV := hLV.2.2.2.1 hA
    have a2 := hG9.2.2.2.2.1 (Or.inr (Or.inr (Or.inl hA)))
    obtain ⟨k, k1, a1, k3⟩ := hG9.2.2.2.1 hA
    have hin := (hf.us hP hie hA).1
    have hT := hP.1.2.2.2
    have hn := hP.2.1 k (by omega)
    have e1 : (g1 G i).toNat = gL G k := by omega
    rw [e1] at hin
    have a5 := (hG.2.2.2 k k1).2
    have hlk := hP.2.2.2.2 _ hn.2.1
    have hlk1 := hlk.2.1
    have hlk2 := hlk.2.2.1
    have hE3 : M.2.1 325 (gL G k) = (((gE G (gL G k)).toNat : Nat) : Int) := by rw [(hG.2.2.1 _ hn.2.1).2.1]; omega
    have hk2 := hn.2.1
    obtain ⟨ax, hax⟩ : ∃ ax, dx + tn 1 (g2 G i) = ax := ⟨_, rfl⟩
    have hax2 := hax
    rw [tn1] at hax2
    have hV2 := hV.2
    clear hV
    refine r_aload0 (pc2 := 212) dX12_doesLine_211 rfl ?_
    refine r_getR (pc2 := 215) dX12_doesLine_212 rfl fX12_83 (hK_317 hS) (hR_317_16 hS) ?_
    refine r_aload0 (pc2 := 216) dX12_doesLine_215 rfl ?_
    refine r_getR (pc2 := 219) dX12_doesLine_216 rfl fX12_74 (hK_317 hS) (hR_317_12 hS) ?_
    refine r_iload5 (pc2 := 221) dX12_doesLine_219 rfl ?_
    refine r_iald (z := ((k : Nat) : Int)) (pc2 := 222) dX12_doesLine_221 rfl (hK_324 hS) (5 * i) rfl (by omega) a1 ?_
    refine r_iald (z := ((gL G k : Nat) : Int)) (pc2 := 223) dX12_doesLine_222 rfl (hK_327 hS) k rfl (by omega) a5 ?_
    refine r_istore6 (pc2 := 225) dX12_doesLine_223 rfl rfl ?_
    refine r_aload0 (pc2 := 226) dX12_doesLine_225 rfl ?_
    refine r_iload6 (pc2 := 228) dX12_doesLine_226 rfl ?_
    refine r_iconst (pc2 := 229) dX12_doesLine_228 rfl ?_
    refine r_iadd (c := ((gL G k + 1 : Nat) : Int)) (pc2 := 230) dX12_doesLine_229 rfl (by omega) ?_
    refine r_aload0 (pc2 := 231) dX12_doesLine_230 rfl ?_
    refine r_getR (pc2 := 234) dX12_doesLine_231 rfl fX12_77 (hK_317 hS) (hR_317_13 hS) ?_
    refine r_iload6 (pc2 := 236) dX12_doesLine_234 rfl ?_
    refine r_iald (z := (((gE G (gL G k)).toNat : Nat) : Int)) (pc2 := 237) dX12_doesLine_236 rfl (hK_325 hS) (gL G k) rfl (by omega) hE3 ?_
    refine r_iload2 (pc2 := 238) dX12_doesLine_237 rfl ?_
    refine r_iload3 (pc2 := 239) dX12_doesLine_238 rfl ?_
    refine r_iload2 (pc2 := 240) dX12_doesLine_239 rfl ?_
    refine r_ifeq (tgt := 256) (pc2 := 243) dX12_doesLine_240 rfl (by decide) ⟨by omega, by omega⟩ (fun h9 => absurd h9 (by decide)) (fun _ => ?_)
    refine r_aload0 (pc2 := 244) dX12_doesLine_243 rfl ?_
    refine r_getR (pc2 := 247) dX12_doesLine_244 rfl fX12_74 (hK_317 hS) (hR_317_12 hS) ?_
    refine r_iload5 (pc2 := 249) dX12_doesLine_247 rfl ?_
    refine r_iconst (pc2 := 250) dX12_doesLine_249 rfl ?_
    refine r_iadd (c := ((5 * i + 1 : Nat) : Int)) (pc2 := 251) dX12_doesLine_250 rfl (by omega) ?_
    refine r_iald (z := (g2 G i)) (pc2 := 252) dX12_doesLine_251 rfl (hK_324 hS) (5 * i + 1) rfl (by omega) a2.1 ?_
    refine r_ineg (c := (-(g2 G i))) (pc2 := 253) dX12_doesLine_252 rfl rfl ?_
    refine r_goto (tgt := 265) dX12_doesLine_253 (by decide) ?_
    refine r_iadd (c := ax) (pc2 := 266) dX12_doesLine_265 rfl (by omega) ?_
    refine r_iload4 (pc2 := 268) dX12_doesLine_266 rfl ?_
    refine r_aload0 (pc2 := 269) dX12_doesLine_268 rfl ?_
    refine r_getR (pc2 := 272) dX12_doesLine_269 rfl fX12_74 (hK_317 hS) (hR_317_12 hS) ?_
    refine r_iload5 (pc2 := 274) dX12_doesLine_272 rfl ?_
    refine r_iconst (pc2 := 275) dX12_doesLine_274 rfl ?_
    refine r_iadd (c := ((5 * i + 2 : Nat) : Int)) (pc2 := 276) dX12_doesLine_275 rfl (by omega) ?_
    refine r_iald (z := (g3 G i)) (pc2 := 277) dX12_doesLine_276 rfl (hK_324 hS) (5 * i + 2) rfl (by omega) a2.2 ?_
    refine r_iadd (c := (dy + (g3 G i))) (pc2 := 278) dX12_doesLine_277 rfl rfl ?_
    have h7 := hR c (gL G k + 1) (gE G (gL G k)).toNat 1 ax (dy + g3 G i) s M hS hG hQ ho hin ⟨by omega, by omega⟩ (by decide) (by unfold dxB; omega) (by unfold dxB; omega)
    refine r_cv5 (pc2 := 281) dX12_doesLine_278 rfl vX12_269 (hK_317 hS) (by decide) h7 ?_
    rintro _ M9 ⟨rfl, q2, q3⟩
    show Go (Ct (d + 2 * c + 6)) _ yX12_doesLine cX12_doesLine none 0 0 281 [some (.ref 317), some (.int (iI ((i : Nat) : Int))), some (.int (iI 1)), some (.int (iI dx)), some (.int (iI dy)), some (.int (iI ((5 * i : Nat) : Int))), some (.int (iI ((gL G k : Nat) : Int)))] [] M9
    refine r_goto (tgt := 391) dX12_doesLine_281 (by decide) ?_
    refine r_ret dX12_doesLine_391 rfl ?_
    exact ⟨rfl, by rw [qL14 hA, e1, hax]; exact q2, q3⟩
  by_cases sw11_5 : (gA G i - 10) = 5
  · refine r_tabIn (tgt := 284) dX12_doesLine_11 ⟨by omega, by omega⟩ 5 (by omega) (by omega) rfl (by decide) ?_
    have hA : gA G i = 15 := by omega
    have hV := hLV.2.2.2.2.1 hA
    have a1 : M.2.1 324 (5 * i) = (((g1 G i).toNat : Nat) : Int) := by rw [hG9.2.2.1 (by omega) (by omega)]; omega
    have a2 := hG9.2.2.2.2.2.1 hA
    by_cases hm1 : g2 G i = -1
    · rw [if_pos hm1] at a2
      refine r_aload0 (pc2 := 285) dX12_doesLine_284 rfl ?_
      refine r_getR (pc2 := 288) dX12_doesLine_285 rfl fX12_95 (hK_317 hS) (hR_317_20 hS) ?_
      refine r_aload0 (pc2 := 289) dX12_doesLine_288 rfl ?_
      refine r_getR (pc2 := 292) dX12_doesLine_289 rfl fX12_74 (hK_317 hS) (hR_317_12 hS) ?_
      refine r_iload5 (pc2 := 294) dX12_doesLine_292 rfl ?_
      refine r_iald (z := (((g1 G i).toNat : Nat) : Int)) (pc2 := 295) dX12_doesLine_294 rfl (hK_324 hS) (5 * i) rfl (by omega) a1 ?_
      refine r_aload0 (pc2 := 296) dX12_doesLine_295 rfl ?_
      refine r_getR (pc2 := 299) dX12_doesLine_296 rfl fX12_74 (hK_317 hS) (hR_317_12 hS) ?_
      refine r_iload5 (pc2 := 301) dX12_doesLine_299 rfl ?_
      refine r_iconst (pc2 := 302) dX12_doesLine_301 rfl ?_
      refine r_iadd (c := ((5 * i + 1 : Nat) : Int)) (pc2 := 303) dX12_doesLine_302 rfl (by omega) ?_
      refine r_iald (z := 4) (pc2 := 304) dX12_doesLine_303 rfl (hK_324 hS) (5 * i + 1) rfl (by omega) a2 ?_
      refine r_iconst (pc2 := 305) dX12_doesLine_304 rfl ?_
      refine r_icne (tgt := 312) (pc2 := 308) dX12_doesLine_305 rfl (by decide) ⟨by omega, by omega⟩ ⟨by omega, by omega⟩ (fun h9 => absurd h9 (by decide)) (fun _ => ?_)
      refine r_iconst (pc2 := 309) dX12_doesLine_308 rfl ?_
      refine r_goto (tgt := 321) dX12_doesLine_309 (by decide) ?_
      refine r_iast (z := (-1)) (pc2 := 322) dX12_doesLine_321 rfl (hK_331 hS) (by decide) ((g1 G i).toNat) rfl (by omega) ?_
      refine r_goto (tgt := 391) dX12_doesLine_322 (by decide) ?_
      refine r_ret dX12_doesLine_391 rfl ?_
      exact ⟨rfl, by rw [qL15 hA, hm1]; exact hQ.lane, frQ.rf.I (by unfold okQ; omega)⟩
    · rw [if_neg hm1] at a2
      refine r_aload0 (pc2 := 285) dX12_doesLine_284 rfl ?_
      refine r_getR (pc2 := 288) dX12_doesLine_285 rfl fX12_95 (hK_317 hS) (hR_317_20 hS) ?_
      refine r_aload0 (pc2 := 289) dX12_doesLine_288 rfl ?_
      refine r_getR (pc2 := 292) dX12_doesLine_289 rfl fX12_74 (hK_317 hS) (hR_317_12 hS) ?_
      refine r_iload5 (pc2 := 294) dX12_doesLine_292 rfl ?_
      refine r_iald (z := (((g1 G i).toNat : Nat) : Int)) (pc2 := 295) dX12_doesLine_294 rfl (hK_324 hS) (5 * i) rfl (by omega) a1 ?_
      refine r_aload0 (pc2 := 296) dX12_doesLine_295 rfl ?_
      refine r_getR (pc2 := 299) dX12_doesLine_296 rfl fX12_74 (hK_317 hS) (hR_317_12 hS) ?_
      refine r_iload5 (pc2 := 301) dX12_doesLine_299 rfl ?_
      refine r_iconst (pc2 := 302) dX12_doesLine_301 rfl ?_
      refine r_iadd (c := ((5 * i + 1 : Nat) : Int)) (pc2 := 303) dX12_doesLine_302 rfl (by omega) ?_
      refine r_iald (z := (g2 G i)) (pc2 := 304) dX12_doesLine_303 rfl (hK_324 hS) (5 * i + 1) rfl (by omega) a2 ?_
      refine r_iconst (pc2 := 305) dX12_doesLine_304 rfl ?_
      refine r_icne (tgt := 312) (pc2 := 308) dX12_doesLine_305 rfl (by decide) ⟨by omega, by omega⟩ ⟨by omega, by omega⟩ (fun b_305 => ?_) (fun b_305 => ?_)
      · refine r_aload0 (pc2 := 313) dX12_doesLine_312 rfl ?_
        refine r_getR (pc2 := 316) dX12_doesLine_313 rfl fX12_74 (hK_317 hS) (hR_317_12 hS) ?_
        refine r_iload5 (pc2 := 318) dX12_doesLine_316 rfl ?_
        refine r_iconst (pc2 := 319) dX12_doesLine_318 rfl ?_
        refine r_iadd (c := ((5 * i + 1 : Nat) : Int)) (pc2 := 320) dX12_doesLine_319 rfl (by omega) ?_
        refine r_iald (z := (g2 G i)) (pc2 := 321) dX12_doesLine_320 rfl (hK_324 hS) (5 * i + 1) rfl (by omega) a2 ?_
        refine r_iast (z := (g2 G i)) (pc2 := 322) dX12_doesLine_321 rfl (hK_331 hS) (by decide) ((g1 G i).toNat) rfl (by omega) ?_
        refine r_goto (tgt := 391) dX12_doesLine_322 (by decide) ?_
        refine r_ret dX12_doesLine_391 rfl ?_
        exact ⟨rfl, by rw [qL15 hA]; exact hQ.lane, frQ.rf.I (by unfold okQ; omega)⟩
      · refine r_iconst (pc2 := 309) dX12_doesLine_308 rfl ?_
        refine r_goto (tgt := 321) dX12_doesLine_309 (by decide) ?_
        refine r_iast (z := (-1)) (pc2 := 322) dX12_doesLine_321 rfl (hK_331 hS) (by decide) ((g1 G i).toNat) rfl (by omega) ?_
        refine r_goto (tgt := 391) dX12_doesLine_322 (by decide) ?_
        refine r_ret dX12_doesLine_391 rfl ?_
        exact absurd b_305 (by omega)
  by_cases sw11_6 : (gA G i - 10) = 6
  · refine r_tabIn (tgt := 325) dX12_doesLine_11 ⟨by omega, by omega⟩ 6 (by omega) (by omega) rfl (by decide) ?_
    have hA : gA G i = 16 := by omega
    have hV := hLV.2.2.2.2.2 hA
    have a1 : M.2.1 324 (5 * i) = (((g1 G i).toNat : Nat) : Int) := by rw [hG9.2.2.1 (by omega) (by omega)]; omega
    have a2 := hG9.2.2.2.2.1 (Or.inr (Or.inr (Or.inr hA)))
    have a3 := hG9.2.2.2.2.2.2 (Or.inr hA)
    have a21 : M.2.1 324 (5 * i + 1) = (((g2 G i).toNat : Nat) : Int) := by rw [a2.1]; omega
    refine r_aload0 (pc2 := 326) dX12_doesLine_325 rfl ?_
    refine r_getR (pc2 := 329) dX12_doesLine_326 rfl fX12_98 (hK_317 hS) (hR_317_21 hS) ?_
    refine r_aload0 (pc2 := 330) dX12_doesLine_329 rfl ?_
    refine r_getR (pc2 := 333) dX12_doesLine_330 rfl fX12_74 (hK_317 hS) (hR_317_12 hS) ?_
    refine r_iload5 (pc2 := 335) dX12_doesLine_333 rfl ?_
    refine r_iald (z := (((g1 G i).toNat : Nat) : Int)) (pc2 := 336) dX12_doesLine_335 rfl (hK_324 hS) (5 * i) rfl (by omega) a1 ?_
    refine r_aload0 (pc2 := 337) dX12_doesLine_336 rfl ?_
    refine r_getR (pc2 := 340) dX12_doesLine_337 rfl fX12_74 (hK_317 hS) (hR_317_12 hS) ?_
    refine r_iload5 (pc2 := 342) dX12_doesLine_340 rfl ?_
    refine r_iconst (pc2 := 343) dX12_doesLine_342 rfl ?_
    refine r_iadd (c := ((5 * i + 1 : Nat) : Int)) (pc2 := 344) dX12_doesLine_343 rfl (by omega) ?_
    refine r_iald (z := (((g2 G i).toNat : Nat) : Int)) (pc2 := 345) dX12_doesLine_344 rfl (hK_324 hS) (5 * i + 1) rfl (by omega) a21 ?_
    refine r_iast (z := (((g2 G i).toNat : Nat) : Int)) (pc2 := 346) dX12_doesLine_345 rfl (hK_332 hS) (by decide) ((g1 G i).toNat) rfl (by omega) ?_
    refine r_aload0 (pc2 := 347) dX12_doesLine_346 rfl ?_
    refine r_getR (pc2 := 350) dX12_doesLine_347 rfl fX12_101 (hK_317 hS) (hR_317_22 hS) ?_
    refine r_aload0 (pc2 := 351) dX12_doesLine_350 rfl ?_
    refine r_getR (pc2 := 354) dX12_doesLine_351 rfl fX12_74 (hK_317 hS) (hR_317_12 hS) ?_
    refine r_iload5 (pc2 := 356) dX12_doesLine_354 rfl ?_
    refine r_iald (z := (((g1 G i).toNat : Nat) : Int)) (pc2 := 357) dX12_doesLine_356 rfl (hK_324 hS) (5 * i) rfl (by omega) a1 ?_
    refine r_aload0 (pc2 := 358) dX12_doesLine_357 rfl ?_
    refine r_getR (pc2 := 361) dX12_doesLine_358 rfl fX12_74 (hK_317 hS) (hR_317_12 hS) ?_
    refine r_iload5 (pc2 := 363) dX12_doesLine_361 rfl ?_
    refine r_iconst (pc2 := 364) dX12_doesLine_363 rfl ?_
    refine r_iadd (c := ((5 * i + 2 : Nat) : Int)) (pc2 := 365) dX12_doesLine_364 rfl (by omega) ?_
    refine r_iald (z := (g3 G i)) (pc2 := 366) dX12_doesLine_365 rfl (hK_324 hS) (5 * i + 2) rfl (by omega) a2.2 ?_
    refine r_iast (z := (g3 G i)) (pc2 := 367) dX12_doesLine_366 rfl (hK_333 hS) (by decide) ((g1 G i).toNat) rfl (by omega) ?_
    refine r_aload0 (pc2 := 368) dX12_doesLine_367 rfl ?_
    refine r_getR (pc2 := 371) dX12_doesLine_368 rfl fX12_104 (hK_317 hS) (hR_317_23 hS) ?_
    refine r_aload0 (pc2 := 372) dX12_doesLine_371 rfl ?_
    refine r_getR (pc2 := 375) dX12_doesLine_372 rfl fX12_74 (hK_317 hS) (hR_317_12 hS) ?_
    refine r_iload5 (pc2 := 377) dX12_doesLine_375 rfl ?_
    refine r_iald (z := (((g1 G i).toNat : Nat) : Int)) (pc2 := 378) dX12_doesLine_377 rfl (hK_324 hS) (5 * i) rfl (by omega) a1 ?_
    refine r_aload0 (pc2 := 379) dX12_doesLine_378 rfl ?_
    refine r_getR (pc2 := 382) dX12_doesLine_379 rfl fX12_74 (hK_317 hS) (hR_317_12 hS) ?_
    refine r_iload5 (pc2 := 384) dX12_doesLine_382 rfl ?_
    refine r_iconst (pc2 := 385) dX12_doesLine_384 rfl ?_
    refine r_iadd (c := ((5 * i + 3 : Nat) : Int)) (pc2 := 386) dX12_doesLine_385 rfl (by omega) ?_
    refine r_iald (z := (g4 G i)) (pc2 := 387) dX12_doesLine_386 rfl (hK_324 hS) (5 * i + 3) rfl (by omega) a3 ?_
    refine r_iast (z := (g4 G i)) (pc2 := 388) dX12_doesLine_387 rfl (hK_334 hS) (by decide) ((g1 G i).toNat) rfl (by omega) ?_
    refine r_goto (tgt := 391) dX12_doesLine_388 (by decide) ?_
    refine r_ret dX12_doesLine_391 rfl ?_
    exact ⟨rfl, by rw [qL16 hA]; exact hQ.hop, ((frQ.rf.I (by unfold okQ; omega)).I (by unfold okQ; omega)).I (by unfold okQ; omega)⟩
  refine r_tabOut (tgt := 391) dX12_doesLine_11 ⟨by omega, by omega⟩ (by omega) (by decide) ?_
  refine r_ret dX12_doesLine_391 rfl ?_
  exact absurd hA9 (by omega)
theorem c_X12_doesLine {G : gPr} {u ns : Nat → Nat} {d f c i e : Nat} {m dx dy : Int} {s : qS} {M : pM} (hP : PV G u ns) (hR : DOp G u ns d f) (hf : frm G u ns i e (c + 1)) (hie : i < e) (hm : 126 * (c + 1) + (e - i) < f + 1) (hdx : dxB (c + 1) dx) (hdy : dxB (c + 1) dy) (hS : sOk M.1) (hG : MG M G) (hQ : MQq M s) (ho : qOk2 s) (h0 : s.2.2.2.2 = 0) (hld : s.2.2.2.1 < s.2.2.1) (hmm : m = 0 ∨ m = 1) : Ct (d + 2 * c + 7) 0 0 yX12_doesLine [.ref 317, .int (iI ((i : Nat) : Int)), .int (iI m), .int (iI dx), .int (iI dy)] M (fun v M2 => v = none ∧ MQq M2 (qLine G (fun a b m2 ax ay s2 => dos G f a b m2 ax ay s2) i m dx dy s) ∧ frQ M M2) := by
  rcases hmm with rfl | rfl
  · exact c_X12_doesLine0 hP hR hf hie hm hdx hdy hS hG hQ ho h0 hld
  · exact c_X12_doesLine1 hP hR hf hie hm hdx hdy hS hG hQ ho h0 hld
set_option maxHeartbeats 8000000 in
theorem lp_X12_does {G : gPr} {u ns : Nat → Nat} (hP : PV G u ns) : ∀ (f d c i e : Nat) (m dx dy : Int) (s : qS) (M : pM) (l1 : Option Value) (Q : pQ), sOk M.1 → MG M G → MQq M s → qOk2 s → frm G u ns i e c → 126 * c + (e - i) < f ∧ i ≤ 126 → (m = 0 ∨ m = 1) → dxB c dx → dxB c dy → (∀ M2, MQq M2 (dos G f i e m dx dy s) → frQ M M2 → Q none M2) →
      Go (Ct (d + 2 * c + 5)) Q yX12_does cX12_does none 0 0 3 [some (.ref 317), l1, some (.int (iI ((e : Nat) : Int))), some (.int (iI m)), some (.int (iI dx)), some (.int (iI dy)), some (.int (iI ((i : Nat) : Int)))] [] M := by
  intro f
  induction f with
  | zero => intro d c i e m dx dy s M l1 Q hS hG hQ ho hf hm; exact absurd hm (by omega)
  | succ f ih =>
    intro d c i e m dx dy s M l1 Q hS hG hQ ho hf hm hmm hdx hdy hE
    have he := hf.1
    have h125 := hP.1.1
    have ho9 := ho.1.2.2.2.2
    have ho8 := ho.1.2.2.1
    have hR : DOp G u ns d f := by
      intro c i e m dx dy s M hS hG hQ ho hf hm hmm hdx hdy
      refine ct_in (d := d + 2 * c + 5) kX12_does rfl (by decide) (Nat.le_of_ble_eq_true rfl) (by decide) ?_
      show Go (Ct (d + 2 * c + 5)) _ yX12_does cX12_does none 0 0 0 [some (.ref 317), some (.int (iI ((i : Nat) : Int))), some (.int (iI ((e : Nat) : Int))), some (.int (iI m)), some (.int (iI dx)), some (.int (iI dy)), none] [] M
      refine r_iload1 (pc2 := 1) dX12_does_0 rfl ?_
      refine r_istore6 (pc2 := 3) dX12_does_1 rfl rfl ?_
      exact ih d c i e m dx dy s M _ _ hS hG hQ ho hf hm hmm hdx hdy (fun M2 q1 q2 => ⟨rfl, q1, q2⟩)
    by_cases hie : i < e
    · cases c with
      | zero => exact absurd (kap_p hP (show i < gS G by omega)).1 (by have := (hf.2.1 i (Nat.le_refl _) hie).2; omega)
      | succ c =>
        have hl := hP.2.2.2.2 i (by omega)
        have hl1 := hl.2.1
        have hl2 := hl.2.2.1
        have hnx := hf.nx hP hie
        refine r_iload6 (pc2 := 5) dX12_does_3 rfl ?_
        refine r_iload2 (pc2 := 6) dX12_does_5 rfl ?_
        refine r_icge (tgt := 75) (pc2 := 9) dX12_does_6 rfl (by decide) ⟨by omega, by omega⟩ ⟨by omega, by omega⟩ (fun b_6 => ?_) (fun b_6 => ?_)
        · refine r_ret dX12_does_75 rfl ?_
          exact absurd b_6 (by omega)
        · refine r_aload0 (pc2 := 10) dX12_does_9 rfl ?_
          refine r_getI (z := s.2.2.2.2) (pc2 := 13) dX12_does_10 rfl (Or.inl fX12_260) (hK_317 hS) hQ.2.1 ?_
          refine r_ifne (tgt := 75) (pc2 := 16) dX12_does_13 rfl (by decide) ⟨by omega, by omega⟩ (fun b_13 => ?_) (fun b_13 => ?_)
          · refine r_ret dX12_does_75 rfl ?_
            exact hE M (by rw [dos_n (fun q => b_13 q.2)]; exact hQ) frQ.rf
          · refine r_aload0 (pc2 := 17) dX12_does_16 rfl ?_
            refine r_dup (pc2 := 18) dX12_does_17 rfl rfl ?_
            refine r_getI (z := ((s.2.2.1 : Nat) : Int)) (pc2 := 21) dX12_does_18 rfl (Or.inl fX12_263) (hK_317 hS) hQ.2.2.1 ?_
            refine r_iconst (pc2 := 22) dX12_does_21 rfl ?_
            refine r_iadd (c := ((s.2.2.1 + 1 : Nat) : Int)) (pc2 := 23) dX12_does_22 rfl (by omega) ?_
            refine r_putI (z := ((s.2.2.1 + 1 : Nat) : Int)) (pc2 := 26) dX12_does_23 rfl fX12_263 (w12_25 _) (hK_317 hS) (by decide) ?_
            refine r_aload0 (pc2 := 27) dX12_does_26 rfl ?_
            refine r_aload0 (pc2 := 28) dX12_does_27 rfl ?_
            refine r_getI (z := ((s.2.2.1 + 1 : Nat) : Int)) (pc2 := 31) dX12_does_28 rfl (Or.inl fX12_263) (hK_317 hS) rfl ?_
            refine r_sipush (pc2 := 34) dX12_does_31 rfl (by decide) (by decide) ?_
            refine r_icle (tgt := 41) (pc2 := 37) dX12_does_34 rfl (by decide) ⟨by omega, by omega⟩ ⟨by omega, by omega⟩ (fun b_34 => ?_) (fun b_34 => ?_)
            · refine r_iconst (pc2 := 42) dX12_does_41 rfl ?_
              refine r_putI (z := 0) (pc2 := 45) dX12_does_42 rfl fX12_260 (w12_24 _) (hK_317 hS) (by decide) ?_
              have z0 : s.2.2.2.2 = 0 := by omega
              have hL9 := qLd_ok ho z0
              obtain ⟨M1, e1⟩ : ∃ M1, M1 = pI (pI M 317 25 ((s.2.2.1 + 1 : Nat) : Int)) 317 24 0 := ⟨_, rfl⟩
              rw [← e1]
              have f1 : frQ M M1 := by rw [e1]; exact (frQ.rf.I (by unfold okQ; omega)).I (by unfold okQ; omega)
              have hS1 := f1.ok hS
              have hG1 := hG.fq f1
              have hQ1 : MQq M1 (qLd s) := by
                have e8 : qRe (qLd s) 0 = qLd s := by show (s.1, s.2.1, s.2.2.1 + 1, s.2.2.2.1, (0 : Int)) = (s.1, s.2.1, s.2.2.1 + 1, s.2.2.2.1, s.2.2.2.2); rw [z0]
                rw [← e8, e1]; exact hQ.ld.re
              have ho1 : qOk2 (qLd s) := ⟨hL9.1, fun _ => by show s.2.2.1 + 1 ≤ 2000; omega⟩
              have v4 : M1.2.1 317 24 = 0 := by rw [e1]; exact pI_at
              refine r_aload0 (pc2 := 46) dX12_does_45 rfl ?_
              refine r_getI (z := 0) (pc2 := 49) dX12_does_46 rfl (Or.inl fX12_260) (hK_317 hS1) v4 ?_
              refine r_ifne (tgt := 63) (pc2 := 52) dX12_does_49 rfl (by decide) ⟨by omega, by omega⟩ (fun h9 => absurd h9 (by decide)) (fun _ => ?_)
              refine r_aload0 (pc2 := 53) dX12_does_52 rfl ?_
              refine r_iload6 (pc2 := 55) dX12_does_53 rfl ?_
              refine r_iload3 (pc2 := 56) dX12_does_55 rfl ?_
              refine r_iload4 (pc2 := 58) dX12_does_56 rfl ?_
              refine r_iload5 (pc2 := 60) dX12_does_58 rfl ?_
              have h7 := c_X12_doesLine (d := d) hP hR hf hie hm.1 hdx hdy hS1 hG1 hQ1 ho1 hL9.2.1 hL9.2.2 hmm
              refine r_cv4 (pc2 := 63) dX12_does_60 rfl vX12_282 (hK_317 hS1) (by decide) h7 ?_
              rintro _ M9 ⟨rfl, q2, q3⟩
              have hS9 := q3.ok hS1
              have hG9 := hG1.fq q3
              have hE3 : M9.2.1 325 i = (((gE G i).toNat : Nat) : Int) := by rw [(hG9.2.2.1 i (by omega)).2.1]; omega
              have ho2 := qLine_ok (m := m) (dx := dx) (dy := dy) hP (show i < gS G by omega) (fun a b m ax ay s hb hs => dos_ok hP f a b m ax ay s hb hs) hL9.1 hL9.2.1 (by show s.2.2.1 + 1 ≤ 2000; omega) hL9.2.2
              show Go (Ct (d + 2 * (c + 1) + 5)) _ yX12_does cX12_does none 0 0 63 [some (.ref 317), l1, some (.int (iI ((e : Nat) : Int))), some (.int (iI m)), some (.int (iI dx)), some (.int (iI dy)), some (.int (iI ((i : Nat) : Int)))] [] M9
              refine r_aload0 (pc2 := 64) dX12_does_63 rfl ?_
              refine r_getR (pc2 := 67) dX12_does_64 rfl fX12_77 (hK_317 hS9) (hR_317_13 hS9) ?_
              refine r_iload6 (pc2 := 69) dX12_does_67 rfl ?_
              refine r_iald (z := (((gE G i).toNat : Nat) : Int)) (pc2 := 70) dX12_does_69 rfl (hK_325 hS9) i rfl (by omega) hE3 ?_
              refine r_istore6 (pc2 := 72) dX12_does_70 rfl rfl ?_
              refine r_goto (tgt := 3) dX12_does_72 (by decide) ?_
              refine ih d (c + 1) (gE G i).toNat e m dx dy _ M9 _ Q hS9 hG9 q2 ho2 hnx.1 ⟨by omega, by omega⟩ hmm hdx hdy (fun M2 q1 q4 => hE M2 ?_ (f1.tr (q3.tr q4)))
              rw [dos_y hie z0 (by omega)]
              exact q1
            · refine r_iconst (pc2 := 38) dX12_does_37 rfl ?_
              refine r_goto (tgt := 42) dX12_does_38 (by decide) ?_
              refine r_putI (z := 4) (pc2 := 45) dX12_does_42 rfl fX12_260 (w12_24 _) (hK_317 hS) (by decide) ?_
              have z0 : s.2.2.2.2 = 0 := by omega
              have hL9 := qLd_ok ho z0
              obtain ⟨M1, e1⟩ : ∃ M1, M1 = pI (pI M 317 25 ((s.2.2.1 + 1 : Nat) : Int)) 317 24 4 := ⟨_, rfl⟩
              rw [← e1]
              have f1 : frQ M M1 := by rw [e1]; exact (frQ.rf.I (by unfold okQ; omega)).I (by unfold okQ; omega)
              have hS1 := f1.ok hS
              have hG1 := hG.fq f1
              have hE3 : M1.2.1 325 i = (((gE G i).toNat : Nat) : Int) := by rw [(hG1.2.2.1 i (by omega)).2.1]; omega
              have hQ1 : MQq M1 (qRe (qLd s) 4) := by rw [e1]; exact hQ.ld.re
              have ho1 : qOk2 (qRe (qLd s) 4) := by
                obtain ⟨g1, g2, g3, g4, g5⟩ := hL9.1
                exact ⟨⟨g1, g2, g3, g4, by show (0 : Int) ≤ 4; decide, by show (4 : Int) ≤ 4; decide⟩, fun q => absurd q (by show ¬ (4 : Int) = 0; decide)⟩
              have v4 : M1.2.1 317 24 = 4 := by rw [e1]; exact pI_at
              refine r_aload0 (pc2 := 46) dX12_does_45 rfl ?_
              refine r_getI (z := 4) (pc2 := 49) dX12_does_46 rfl (Or.inl fX12_260) (hK_317 hS1) v4 ?_
              refine r_ifne (tgt := 63) (pc2 := 52) dX12_does_49 rfl (by decide) ⟨by omega, by omega⟩ (fun _ => ?_) (fun h9 => absurd h9 (by decide))
              refine r_aload0 (pc2 := 64) dX12_does_63 rfl ?_
              refine r_getR (pc2 := 67) dX12_does_64 rfl fX12_77 (hK_317 hS1) (hR_317_13 hS1) ?_
              refine r_iload6 (pc2 := 69) dX12_does_67 rfl ?_
              refine r_iald (z := (((gE G i).toNat : Nat) : Int)) (pc2 := 70) dX12_does_69 rfl (hK_325 hS1) i rfl (by omega) hE3 ?_
              refine r_istore6 (pc2 := 72) dX12_does_70 rfl rfl ?_
              refine r_goto (tgt := 3) dX12_does_72 (by decide) ?_
              refine ih d (c + 1) (gE G i).toNat e m dx dy _ M1 _ Q hS1 hG1 hQ1 ho1 hnx.1 ⟨by omega, by omega⟩ hmm hdx hdy (fun M2 q1 q2 => hE M2 ?_ (f1.tr q2))
              rw [dos_4 hie z0 (by omega)]
              rw [dos_re (by show ¬ (4 : Int) = 0; decide)] at q1
              exact q1
    · refine r_iload6 (pc2 := 5) dX12_does_3 rfl ?_
      refine r_iload2 (pc2 := 6) dX12_does_5 rfl ?_
      refine r_icge (tgt := 75) (pc2 := 9) dX12_does_6 rfl (by decide) ⟨by omega, by omega⟩ ⟨by omega, by omega⟩ (fun b_6 => ?_) (fun b_6 => ?_)
      · refine r_ret dX12_does_75 rfl ?_
        exact hE M (by rw [dos_n (fun q => hie q.1)]; exact hQ) frQ.rf
      · exact absurd b_6 (by omega)
/-- a whole program -/
theorem c_X12_does {G : gPr} {u ns : Nat → Nat} {d : Nat} {s : qS} {M : pM} (hP : PV G u ns) (hD : gD G = 0) (hS : sOk M.1) (hG : MG M G) (hQ : MQq M s) (ho : qOk2 s) : Ct (d + 316) 0 0 yX12_does [.ref 317, .int (iI 0), .int (iI ((gS G : Nat) : Int)), .int (iI 0), .int (iI 0), .int (iI 0)] M (fun v M2 => v = none ∧ MQq M2 (dos G 20000 0 (gS G) 0 0 0 s) ∧ frQ M M2) := by
  have h125 := hP.1.1
  have hf : frm G u ns 0 (gS G) 155 := ⟨Nat.le_refl _, fun j j1 j2 => ⟨(hP.2.2.2.2 j j2).2.2.1, (kap_p hP j2).2⟩, Nat.le_refl _⟩
  refine ct_in (d := d + 315) kX12_does rfl (by decide) (Nat.le_of_ble_eq_true rfl) (by decide) ?_
  show Go (Ct (d + 315)) _ yX12_does cX12_does none 0 0 0 [some (.ref 317), some (.int (iI 0)), some (.int (iI ((gS G : Nat) : Int))), some (.int (iI 0)), some (.int (iI 0)), some (.int (iI 0)), none] [] M
  refine r_iload1 (pc2 := 1) dX12_does_0 rfl ?_
  refine r_istore6 (pc2 := 3) dX12_does_1 rfl rfl ?_
  exact lp_X12_does hP 20000 d 155 0 (gS G) 0 0 0 s M _ _ hS hG hQ ho hf ⟨by omega, by omega⟩ (Or.inl rfl) (by unfold dxB; omega) (by unfold dxB; omega) (fun M2 q1 q2 => ⟨rfl, q1, q2⟩)
