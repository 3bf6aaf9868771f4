/-! the class's drop, on any of its boards -/
theorem pJ_self {M : pM} {a k : Nat} : pJ M a k (M.2.2 a k) = M := by
  have e : pU M.2.2 a k (M.2.2 a k) = M.2.2 := by
    funext b
    unfold pU
    by_cases h : b = a
    · subst h; rw [if_pos rfl, up_self]
    · rw [if_neg h]
  show (M.1, M.2.1, pU M.2.2 a k (M.2.2 a k)) = M
  rw [e]
theorem pJ_pJ {M : pM} {a k : Nat} {v w : Int64} : pJ (pJ M a k v) a k w = pJ M a k w := by
  have e : pU (pU M.2.2 a k v) a k w = pU M.2.2 a k w := by
    funext b
    unfold pU
    by_cases h : b = a
    · subst h; simp only [if_true]; rw [up_up]
    · simp only [if_neg h]
  show (M.1, M.2.1, pU (pU M.2.2 a k v) a k w) = _
  rw [e]; rfl
/-- the class's board b, with the bits of its moving pieces at ix -/
def cBd (M : pM) (b : Nat) (pc sz tr : Nat → Int) (ix : Nat → Nat) : Prop := (∀ p, p < 156 → M.2.1 (b + 1) p = pc p) ∧ (∀ p, p < 156 → 0 ≤ M.2.1 (b + 2) p ∧ M.2.1 (b + 2) p ≤ 9 ∧ (pc p = 6 ∨ pc p = 7 → M.2.1 (b + 2) p = sz p)) ∧ (∀ p, p < 156 → M.2.1 (b + 3) p = ((4 * ix p : Nat) : Int)) ∧ (∀ p, p < 156 → M.2.1 (b + 4) p = tr p) ∧ (∀ p, p < 156 → pc p = 4 → ∀ j, j < 64 → (bl (M.2.2 (b + 5) p) j = true ↔ ∃ q, q < 156 ∧ pc q = 4 ∧ tr q = tr p ∧ j = 4 * ix q)) ∧ Ixw pc ix
/-- the gates that stick -/
def stk (pc tr : Nat → Int) (ix : Nat → Nat) (st : Int) (u : Int64) : Prop := ∀ j, j < 64 → (bl u j = true ↔ ∃ q, q < 156 ∧ pc q = 4 ∧ tr q = st ∧ j = 4 * ix q)
theorem cBd.J {M : pM} {b : Nat} {pc sz tr : Nat → Int} {ix : Nat → Nat} {a : Int64} (h : cBd M b pc sz tr ix) : cBd (pJ M b 12 a) b pc sz tr ix :=
  ⟨h.1, h.2.1, h.2.2.1, h.2.2.2.1, fun p hp hc j hj => by rw [pJ_ne (by omega)]; exact h.2.2.2.2.1 p hp hc j hj, h.2.2.2.2.2⟩
set_option maxHeartbeats 4000000 in
theorem c_X0_setBits {d : Nat} {M : pM} {b k x : Nat} (hS : sOk M.1) (hb_b : isB b) (hk : k < 16) (hx : x < 16) : Ct (d + 1) 0 0 yX0_setBits [.ref (b), .int (iI ((4 * k : Nat) : Int)), .int (iI ((x : Nat) : Int))] M (fun v M2 => v = none ∧ ∃ a2, M2 = pJ M b 12 a2 ∧ ∀ j, j < 64 → bl a2 j = if 4 * k ≤ j ∧ j < 4 * k + 4 then x.testBit (j - 4 * k) else bl (M.2.2 b 12) j) := by
  refine ct_in (d := d) kX0_setBits rfl (by decide) (Nat.le_of_ble_eq_true rfl) (by decide) ?_
  show Go (Ct d) _ yX0_setBits cX0_setBits none 0 0 0 [some (.ref (b)), some (.int (iI ((4 * k : Nat) : Int))), some (.int (iI ((x : Nat) : Int)))] [] M
  refine r_aload0 (pc2 := 1) dX0_setBits_0 rfl ?_
  refine r_aload0 (pc2 := 2) dX0_setBits_1 rfl ?_
  refine r_getJ (z := (M.2.2 b 12)) (pc2 := 5) dX0_setBits_2 rfl fX0_79 (hKb hS hb_b) rfl ?_
  refine r_ldc2 (pc2 := 8) dX0_setBits_5 rfl lX0_96 ?_
  refine r_iload1 (pc2 := 9) dX0_setBits_8 rfl ?_
  refine r_lshl (pc2 := 10) dX0_setBits_9 rfl ?_
  refine r_ldc2 (pc2 := 13) dX0_setBits_10 rfl lX0_90 ?_
  refine r_lxor (pc2 := 14) dX0_setBits_13 rfl ?_
  refine r_land (pc2 := 15) dX0_setBits_14 rfl ?_
  refine r_iload2 (pc2 := 16) dX0_setBits_15 rfl ?_
  refine r_i2l (pc2 := 17) dX0_setBits_16 rfl ⟨by omega, by omega⟩ ?_
  refine r_iload1 (pc2 := 18) dX0_setBits_17 rfl ?_
  refine r_lshl (pc2 := 19) dX0_setBits_18 rfl ?_
  refine r_lor (pc2 := 20) dX0_setBits_19 rfl ?_
  refine r_putJ (pc2 := 23) dX0_setBits_20 rfl fX0_79 (w0_12 _) (hKb hS hb_b) (isB_ge hb_b) ?_
  refine r_ret dX0_setBits_23 rfl ?_
  exact ⟨rfl, _, rfl, fun j hj => bl_set (M.2.2 b 12) (by omega) hx hj⟩
theorem cFlip {pc sz tr sh : Nat → Int} {ix : Nat → Nat} {p : Nat} {s1 F u : Int64} {st : Int} (h : BE pc ix s1 sh) (hx : Ixw pc ix) (hw : Wfb pc sz sh) (hst : stk pc tr ix st u) (hF : ∀ j, j < 64 → (bl F j = true ↔ ∃ q, q < 156 ∧ pc q = 4 ∧ tr q = tr p ∧ j = 4 * ix q)) : BE pc ix (s1 ^^^ (F &&& (u ^^^ (-1)))) (if tr p = st then sh else aFlip pc tr (tr p) sh) := by
  by_cases hc : tr p = st
  · rw [if_pos hc]
    have e : s1 ^^^ (F &&& (u ^^^ (-1))) = s1 := by
      refine bl_ext (fun j hj => ?_)
      rw [bl_xor, bl_and, bl_not hj]
      have : bl F j = bl u j := by
        have a := hF j hj
        have b := hst j hj
        rw [hc] at a
        cases e1 : bl F j <;> cases e2 : bl u j <;> simp [e1, e2] at a b ⊢
        · obtain ⟨q, q1, q2, q3, q4⟩ := b; exact a q q1 q2 q3 q4
        · obtain ⟨q, q1, q2, q3, q4⟩ := a; exact b q q1 q2 q3 q4
      rw [this]; cases bl u j <;> simp
    rw [e]; exact h
  · rw [if_neg hc]
    have e : F &&& (u ^^^ (-1)) = F := by
      refine bl_ext (fun j hj => ?_)
      rw [bl_and, bl_not hj]
      have a := hF j hj
      have b := hst j hj
      cases e1 : bl F j <;> cases e2 : bl u j <;> try rfl
      obtain ⟨q, q1, q2, q3, q4⟩ := a.mp e1
      obtain ⟨q', r1, r2, r3, r4⟩ := b.mp e2
      have := hx.2 q q' q1 r1 (Or.inl q2) (Or.inl r2) (by omega)
      subst this
      exact absurd (q3.symm.trans r3) hc
    rw [e]
    exact h.flip hx (fun q hq hg => ⟨(hw q hq).2.2.1.1, (hw q hq).2.2.2.2.1 (Or.inl hg)⟩) hF
set_option maxHeartbeats 4000000 in
theorem c_X0_sendsRight {d : Nat} {M : pM} {b p : Nat} {kd l st : Int} {u : Int64} {pc sz tr sh : Nat → Int} {ix : Nat → Nat} (hS : sOk M.1) (hb_b : isB b) (hp : p < 156) (hkd : inR kd) (hl : l = 0 ∨ l = 1) (hB : cBd M b pc sz tr ix) (hw : Wfb pc sz sh) (hE : BE pc ix (M.2.2 b 12) sh) (hst : stk pc tr ix st u) (hpc : ¬ pc p = 0 ∧ ¬ pc p = 5 ∧ ¬ pc p = 8) : Ct (d + 2) 0 0 yX0_sendsRight [.ref (b), .int (iI ((p : Nat) : Int)), .int (iI kd), .int (iI l), .long (u)] M (fun v M2 => v = some (.int (iI (aSend pc sz tr st kd p l sh).1)) ∧ ∃ a2, M2 = pJ M b 12 a2 ∧ BE pc ix a2 (aSend pc sz tr st kd p l sh).2) := by
  refine ct_in (d := (d + 1)) kX0_sendsRight rfl (by decide) (Nat.le_of_ble_eq_true rfl) (by decide) ?_
  show Go (Ct (d + 1)) _ yX0_sendsRight cX0_sendsRight (some .boolean) 0 0 0 [some (.ref (b)), some (.int (iI ((p : Nat) : Int))), some (.int (iI kd)), some (.int (iI l)), some (.long (u)), none, none, none, none] [] M
  obtain ⟨k1, k2⟩ := hkd
  have q1 := hB.1 p hp
  have q2 := hB.2.1 p hp
  have q3 := hB.2.2.1 p hp
  have ixl := hB.2.2.2.2.2.1 p hp
  obtain ⟨w1, w2, w3, w4, w5, w6⟩ := hw p hp
  have hN : mvg (pc p) → ((nib (M.2.2 b 12) (4 * ix p) : Nat) : Int) = sh p := fun hm => hE.nb hB.2.2.2.2.2 hp hm (by omega) (by omega)
  have nl := nib_lt (M.2.2 b 12) (4 * ix p)
  refine r_aload0 (pc2 := 1) dX0_sendsRight_0 rfl ?_
  refine r_getR (pc2 := 4) dX0_sendsRight_1 rfl fX0_18 (hKb hS hb_b) (hRb2 hS hb_b) ?_
  refine r_iload1 (pc2 := 5) dX0_sendsRight_4 rfl ?_
  refine r_iald (z := ((4 * ix p : Nat) : Int)) (pc2 := 6) dX0_sendsRight_5 rfl (hKb3 hS hb_b) p rfl (by omega) q3 ?_
  refine r_istore6 (pc2 := 8) dX0_sendsRight_6 rfl rfl ?_
  refine r_aload0 (pc2 := 9) dX0_sendsRight_8 rfl ?_
  refine r_getJ (z := (M.2.2 b 12)) (pc2 := 12) dX0_sendsRight_9 rfl fX0_79 (hKb hS hb_b) rfl ?_
  refine r_iload6 (pc2 := 14) dX0_sendsRight_12 rfl ?_
  refine r_lushr (pc2 := 15) dX0_sendsRight_14 rfl ?_
  refine r_l2i (pc2 := 16) dX0_sendsRight_15 rfl ?_
  refine r_bipush (pc2 := 18) dX0_sendsRight_16 rfl (by decide) (by decide) ?_
  refine r_iand (pc2 := 19) dX0_sendsRight_18 rfl ?_
  rw [nib_u (M.2.2 b 12) (by omega)]
  refine r_istore7 (pc2 := 21) dX0_sendsRight_19 rfl rfl ?_
  refine r_aload0 (pc2 := 22) dX0_sendsRight_21 rfl ?_
  refine r_getR (pc2 := 25) dX0_sendsRight_22 rfl fX0_9 (hKb hS hb_b) (hRb0 hS hb_b) ?_
  refine r_iload1 (pc2 := 26) dX0_sendsRight_25 rfl ?_
  refine r_iald (z := (pc p)) (pc2 := 27) dX0_sendsRight_26 rfl (hKb1 hS hb_b) p rfl (by omega) q1 ?_
  by_cases sw27_2 : (pc p) = 2
  · refine r_tabIn (tgt := 72) dX0_sendsRight_27 ⟨by omega, by omega⟩ 0 (by omega) (by omega) rfl (by decide) ?_
    refine r_iconst (pc2 := 73) dX0_sendsRight_72 rfl ?_
    refine r_iretz dX0_sendsRight_73 rfl (by omega) ?_
    have e0 : aSend pc sz tr st kd p l sh = (1, sh) := by unfold aSend; rw [if_neg (by omega), if_pos (by omega)]
    rw [e0]
    exact ⟨rfl, ⟨M.2.2 b 12, pJ_self.symm, hE⟩⟩
  by_cases sw27_3 : (pc p) = 3
  · refine r_tabIn (tgt := 74) dX0_sendsRight_27 ⟨by omega, by omega⟩ 1 (by omega) (by omega) rfl (by decide) ?_
    refine r_iload3 (pc2 := 75) dX0_sendsRight_74 rfl ?_
    refine r_iretz dX0_sendsRight_75 rfl (by omega) ?_
    have e0 : aSend pc sz tr st kd p l sh = (l, sh) := by unfold aSend; rw [if_neg (by omega), if_neg (by omega), if_pos (by omega)]
    rw [e0]
    exact ⟨rfl, ⟨M.2.2 b 12, pJ_self.symm, hE⟩⟩
  by_cases sw27_4 : (pc p) = 4
  · refine r_tabIn (tgt := 76) dX0_sendsRight_27 ⟨by omega, by omega⟩ 2 (by omega) (by omega) rfl (by decide) ?_
    refine r_aload0 (pc2 := 77) dX0_sendsRight_76 rfl ?_
    refine r_dup (pc2 := 78) dX0_sendsRight_77 rfl rfl ?_
    refine r_getJ (z := (M.2.2 b 12)) (pc2 := 81) dX0_sendsRight_78 rfl fX0_79 (hKb hS hb_b) rfl ?_
    refine r_aload0 (pc2 := 82) dX0_sendsRight_81 rfl ?_
    refine r_getR (pc2 := 85) dX0_sendsRight_82 rfl fX0_24 (hKb hS hb_b) (hRb4 hS hb_b) ?_
    refine r_iload1 (pc2 := 86) dX0_sendsRight_85 rfl ?_
    refine r_lald (z := (M.2.2 (b + 5) p)) (pc2 := 87) dX0_sendsRight_86 rfl (hKb5 hS hb_b) p rfl (by omega) rfl ?_
    refine r_lload4 (pc2 := 89) dX0_sendsRight_87 rfl ?_
    refine r_ldc2 (pc2 := 92) dX0_sendsRight_89 rfl lX0_90 ?_
    refine r_lxor (pc2 := 93) dX0_sendsRight_92 rfl ?_
    refine r_land (pc2 := 94) dX0_sendsRight_93 rfl ?_
    refine r_lxor (pc2 := 95) dX0_sendsRight_94 rfl ?_
    refine r_putJ (pc2 := 98) dX0_sendsRight_95 rfl fX0_79 (w0_12 _) (hKb hS hb_b) (isB_ge hb_b) ?_
    refine r_iload7 (pc2 := 100) dX0_sendsRight_98 rfl ?_
    refine r_iconst (pc2 := 101) dX0_sendsRight_100 rfl ?_
    refine r_icne (tgt := 108) (pc2 := 104) dX0_sendsRight_101 rfl (by decide) ⟨by omega, by omega⟩ ⟨by omega, by omega⟩ (fun b_101 => ?_) (fun b_101 => ?_)
    · refine r_iconst (pc2 := 109) dX0_sendsRight_108 rfl ?_
      refine r_iretz dX0_sendsRight_109 rfl (by omega) ?_
      have e0 : aSend pc sz tr st kd p l sh = (sh p, if tr p = st then sh else aFlip pc tr (tr p) sh) := by unfold aSend; rw [if_neg (by omega), if_neg (by omega), if_neg (by omega), if_pos (by omega)]
      rw [e0]
      have hn := hN (Or.inl (by omega))
      refine ⟨by congr 3; omega, _, rfl, ?_⟩
      exact cFlip hE hB.2.2.2.2.2 hw hst (hB.2.2.2.2.1 p hp (by omega))
    · refine r_iconst (pc2 := 105) dX0_sendsRight_104 rfl ?_
      refine r_goto (tgt := 109) dX0_sendsRight_105 (by decide) ?_
      refine r_iretz dX0_sendsRight_109 rfl (by omega) ?_
      have e0 : aSend pc sz tr st kd p l sh = (sh p, if tr p = st then sh else aFlip pc tr (tr p) sh) := by unfold aSend; rw [if_neg (by omega), if_neg (by omega), if_neg (by omega), if_pos (by omega)]
      rw [e0]
      have hn := hN (Or.inl (by omega))
      refine ⟨by congr 3; omega, _, rfl, ?_⟩
      exact cFlip hE hB.2.2.2.2.2 hw hst (hB.2.2.2.2.1 p hp (by omega))
  by_cases sw27_5 : (pc p) = 5
  · refine r_tabIn (tgt := 195) dX0_sendsRight_27 ⟨by omega, by omega⟩ 3 (by omega) (by omega) rfl (by decide) ?_
    refine r_iconst (pc2 := 196) dX0_sendsRight_195 rfl ?_
    refine r_iretz dX0_sendsRight_196 rfl (by omega) ?_
    exact absurd hpc (by omega)
  by_cases sw27_6 : (pc p) = 6
  · refine r_tabIn (tgt := 110) dX0_sendsRight_27 ⟨by omega, by omega⟩ 4 (by omega) (by omega) rfl (by decide) ?_
    refine r_iload2 (pc2 := 111) dX0_sendsRight_110 rfl ?_
    refine r_aload0 (pc2 := 112) dX0_sendsRight_111 rfl ?_
    refine r_getR (pc2 := 115) dX0_sendsRight_112 rfl fX0_15 (hKb hS hb_b) (hRb1 hS hb_b) ?_
    refine r_iload1 (pc2 := 116) dX0_sendsRight_115 rfl ?_
    refine r_iald (z := (M.2.1 (b + 2) p)) (pc2 := 117) dX0_sendsRight_116 rfl (hKb2 hS hb_b) p rfl (by omega) rfl ?_
    refine r_iceq (tgt := 124) (pc2 := 120) dX0_sendsRight_117 rfl (by decide) ⟨by omega, by omega⟩ ⟨by omega, by omega⟩ (fun b_117 => ?_) (fun b_117 => ?_)
    · refine r_iconst (pc2 := 125) dX0_sendsRight_124 rfl ?_
      refine r_iretz dX0_sendsRight_125 rfl (by omega) ?_
      have e0 : aSend pc sz tr st kd p l sh = (if sz p = kd then 0 else 1, sh) := by unfold aSend; rw [if_neg (by omega), if_neg (by omega), if_neg (by omega), if_neg (by omega), if_pos (by omega)]
      rw [e0]
      exact ⟨by first | rfl | (rw [if_pos (by omega)]) | (rw [if_neg (by omega)]), ⟨M.2.2 b 12, pJ_self.symm, hE⟩⟩
    · refine r_iconst (pc2 := 121) dX0_sendsRight_120 rfl ?_
      refine r_goto (tgt := 125) dX0_sendsRight_121 (by decide) ?_
      refine r_iretz dX0_sendsRight_125 rfl (by omega) ?_
      have e0 : aSend pc sz tr st kd p l sh = (if sz p = kd then 0 else 1, sh) := by unfold aSend; rw [if_neg (by omega), if_neg (by omega), if_neg (by omega), if_neg (by omega), if_pos (by omega)]
      rw [e0]
      exact ⟨by first | rfl | (rw [if_pos (by omega)]) | (rw [if_neg (by omega)]), ⟨M.2.2 b 12, pJ_self.symm, hE⟩⟩
  by_cases sw27_7 : (pc p) = 7
  · refine r_tabIn (tgt := 126) dX0_sendsRight_27 ⟨by omega, by omega⟩ 5 (by omega) (by omega) rfl (by decide) ?_
    refine r_iload7 (pc2 := 128) dX0_sendsRight_126 rfl ?_
    refine r_iconst (pc2 := 129) dX0_sendsRight_128 rfl ?_
    refine r_iadd (c := ((nib (M.2.2 b 12) (4 * ix p) + 1 : Nat) : Int)) (pc2 := 130) dX0_sendsRight_129 rfl (by omega) ?_
    refine r_aload0 (pc2 := 131) dX0_sendsRight_130 rfl ?_
    refine r_getR (pc2 := 134) dX0_sendsRight_131 rfl fX0_15 (hKb hS hb_b) (hRb1 hS hb_b) ?_
    refine r_iload1 (pc2 := 135) dX0_sendsRight_134 rfl ?_
    refine r_iald (z := (M.2.1 (b + 2) p)) (pc2 := 136) dX0_sendsRight_135 rfl (hKb2 hS hb_b) p rfl (by omega) rfl ?_
    refine r_iclt (tgt := 143) (pc2 := 139) dX0_sendsRight_136 rfl (by decide) ⟨by omega, by omega⟩ ⟨by omega, by omega⟩ (fun b_136 => ?_) (fun b_136 => ?_)
    · refine r_iconst (pc2 := 144) dX0_sendsRight_143 rfl ?_
      refine r_istore8 (pc2 := 146) dX0_sendsRight_144 rfl rfl ?_
      refine r_aload0 (pc2 := 147) dX0_sendsRight_146 rfl ?_
      refine r_iload6 (pc2 := 149) dX0_sendsRight_147 rfl ?_
      refine r_iload8 (pc2 := 151) dX0_sendsRight_149 rfl ?_
      refine r_ifeq (tgt := 158) (pc2 := 154) dX0_sendsRight_151 rfl (by decide) ⟨by omega, by omega⟩ (fun _ => ?_) (fun h9 => absurd h9 (by decide))
      refine r_iload7 (pc2 := 160) dX0_sendsRight_158 rfl ?_
      refine r_iconst (pc2 := 161) dX0_sendsRight_160 rfl ?_
      refine r_iadd (c := ((nib (M.2.2 b 12) (4 * ix p) + 1 : Nat) : Int)) (pc2 := 162) dX0_sendsRight_161 rfl (by omega) ?_
      refine r_cv2 (pc2 := 165) dX0_sendsRight_162 rfl vX0_92 (hKb hS hb_b) (by decide) (c_X0_setBits (d := d) (k := ix p) (x := (nib (M.2.2 b 12) (4 * ix p) + 1)) hS hb_b (by omega) (by omega)) ?_
      rintro _ M9 ⟨rfl, a9, hM9, ha9⟩
      show Go (Ct (d + 1)) _ yX0_sendsRight cX0_sendsRight (some .boolean) 0 0 165 [some (.ref (b)), some (.int (iI ((p : Nat) : Int))), some (.int (iI kd)), some (.int (iI l)), some (.long (u)), none, some (.int (iI ((4 * ix p : Nat) : Int))), some (.int (iI ((nib (M.2.2 b 12) (4 * ix p) : Nat) : Int))), some (.int (iI 0))] [] M9
      refine r_iload8 (pc2 := 167) dX0_sendsRight_165 rfl ?_
      refine r_iretz dX0_sendsRight_167 rfl (by omega) ?_
      have e0 : aSend pc sz tr st kd p l sh = (if (sh p + 1) % sz p = 0 then 1 else 0, va_up sh p ((sh p + 1) % sz p)) := by unfold aSend; rw [if_neg (by omega), if_neg (by omega), if_neg (by omega), if_neg (by omega), if_neg (by omega), if_pos (by omega)]
      rw [e0]
      have hn := hN (Or.inr (Or.inl (by omega)))
      have w7 := w4 (by omega)
      have q7 := q2.2.2 (Or.inr (by omega))
      have em : (sh p + 1) % sz p = sh p + 1 := Int.emod_eq_of_lt (by omega) (by omega)
      rw [em, if_neg (by omega)]
      refine ⟨rfl, a9, hM9, ?_⟩
      rw [show sh p + 1 = ((nib (M.2.2 b 12) (4 * ix p) + 1 : Nat) : Int) by omega]
      exact hE.up hB.2.2.2.2.2 hp (Or.inr (Or.inl (by omega))) (by omega) ha9
    · refine r_iconst (pc2 := 140) dX0_sendsRight_139 rfl ?_
      refine r_goto (tgt := 144) dX0_sendsRight_140 (by decide) ?_
      refine r_istore8 (pc2 := 146) dX0_sendsRight_144 rfl rfl ?_
      refine r_aload0 (pc2 := 147) dX0_sendsRight_146 rfl ?_
      refine r_iload6 (pc2 := 149) dX0_sendsRight_147 rfl ?_
      refine r_iload8 (pc2 := 151) dX0_sendsRight_149 rfl ?_
      refine r_ifeq (tgt := 158) (pc2 := 154) dX0_sendsRight_151 rfl (by decide) ⟨by omega, by omega⟩ (fun h9 => absurd h9 (by decide)) (fun _ => ?_)
      refine r_iconst (pc2 := 155) dX0_sendsRight_154 rfl ?_
      refine r_goto (tgt := 162) dX0_sendsRight_155 (by decide) ?_
      refine r_cv2 (pc2 := 165) dX0_sendsRight_162 rfl vX0_92 (hKb hS hb_b) (by decide) (c_X0_setBits (d := d) (k := ix p) (x := 0) hS hb_b (by omega) (by omega)) ?_
      rintro _ M9 ⟨rfl, a9, hM9, ha9⟩
      show Go (Ct (d + 1)) _ yX0_sendsRight cX0_sendsRight (some .boolean) 0 0 165 [some (.ref (b)), some (.int (iI ((p : Nat) : Int))), some (.int (iI kd)), some (.int (iI l)), some (.long (u)), none, some (.int (iI ((4 * ix p : Nat) : Int))), some (.int (iI ((nib (M.2.2 b 12) (4 * ix p) : Nat) : Int))), some (.int (iI 1))] [] M9
      refine r_iload8 (pc2 := 167) dX0_sendsRight_165 rfl ?_
      refine r_iretz dX0_sendsRight_167 rfl (by omega) ?_
      have e0 : aSend pc sz tr st kd p l sh = (if (sh p + 1) % sz p = 0 then 1 else 0, va_up sh p ((sh p + 1) % sz p)) := by unfold aSend; rw [if_neg (by omega), if_neg (by omega), if_neg (by omega), if_neg (by omega), if_neg (by omega), if_pos (by omega)]
      rw [e0]
      have hn := hN (Or.inr (Or.inl (by omega)))
      have w7 := w4 (by omega)
      have q7 := q2.2.2 (Or.inr (by omega))
      have em : (sh p + 1) % sz p = 0 := by rw [show sh p + 1 = sz p by omega]; exact Int.emod_self
      rw [em]
      refine ⟨rfl, a9, hM9, ?_⟩
      exact hE.up hB.2.2.2.2.2 hp (Or.inr (Or.inl (by omega))) (v := 0) (by decide) ha9
  by_cases sw27_8 : (pc p) = 8
  · refine r_tabIn (tgt := 195) dX0_sendsRight_27 ⟨by omega, by omega⟩ 6 (by omega) (by omega) rfl (by decide) ?_
    refine r_iconst (pc2 := 196) dX0_sendsRight_195 rfl ?_
    refine r_iretz dX0_sendsRight_196 rfl (by omega) ?_
    exact absurd hpc (by omega)
  by_cases sw27_9 : (pc p) = 9
  · refine r_tabIn (tgt := 168) dX0_sendsRight_27 ⟨by omega, by omega⟩ 7 (by omega) (by omega) rfl (by decide) ?_
    refine r_aload0 (pc2 := 169) dX0_sendsRight_168 rfl ?_
    refine r_iload6 (pc2 := 171) dX0_sendsRight_169 rfl ?_
    refine r_iload3 (pc2 := 172) dX0_sendsRight_171 rfl ?_
    refine r_ifeq (tgt := 179) (pc2 := 175) dX0_sendsRight_172 rfl (by decide) ⟨by omega, by omega⟩ (fun b_172 => ?_) (fun b_172 => ?_)
    · refine r_iconst (pc2 := 180) dX0_sendsRight_179 rfl ?_
      refine r_cv2 (pc2 := 183) dX0_sendsRight_180 rfl vX0_92 (hKb hS hb_b) (by decide) (c_X0_setBits (d := d) (k := ix p) (x := 0) hS hb_b (by omega) (by omega)) ?_
      rintro _ M9 ⟨rfl, a9, hM9, ha9⟩
      show Go (Ct (d + 1)) _ yX0_sendsRight cX0_sendsRight (some .boolean) 0 0 183 [some (.ref (b)), some (.int (iI ((p : Nat) : Int))), some (.int (iI kd)), some (.int (iI l)), some (.long (u)), none, some (.int (iI ((4 * ix p : Nat) : Int))), some (.int (iI ((nib (M.2.2 b 12) (4 * ix p) : Nat) : Int))), none] [] M9
      refine r_iload7 (pc2 := 185) dX0_sendsRight_183 rfl ?_
      refine r_iconst (pc2 := 186) dX0_sendsRight_185 rfl ?_
      refine r_icne (tgt := 193) (pc2 := 189) dX0_sendsRight_186 rfl (by decide) ⟨by omega, by omega⟩ ⟨by omega, by omega⟩ (fun b_186 => ?_) (fun b_186 => ?_)
      · refine r_iconst (pc2 := 194) dX0_sendsRight_193 rfl ?_
        refine r_iretz dX0_sendsRight_194 rfl (by omega) ?_
        have e0 : aSend pc sz tr st kd p l sh = (sh p, va_up sh p l) := by unfold aSend; rw [if_neg (by omega), if_neg (by omega), if_neg (by omega), if_neg (by omega), if_neg (by omega), if_neg (by omega), if_pos (by omega)]
        rw [e0]
        have hn := hN (Or.inr (Or.inr (by omega)))
        refine ⟨by congr 3; omega, a9, hM9, ?_⟩
        rw [show l = ((0 : Nat) : Int) by omega]
        exact hE.up hB.2.2.2.2.2 hp (Or.inr (Or.inr (by omega))) (by decide) ha9
      · refine r_iconst (pc2 := 190) dX0_sendsRight_189 rfl ?_
        refine r_goto (tgt := 194) dX0_sendsRight_190 (by decide) ?_
        refine r_iretz dX0_sendsRight_194 rfl (by omega) ?_
        have e0 : aSend pc sz tr st kd p l sh = (sh p, va_up sh p l) := by unfold aSend; rw [if_neg (by omega), if_neg (by omega), if_neg (by omega), if_neg (by omega), if_neg (by omega), if_neg (by omega), if_pos (by omega)]
        rw [e0]
        have hn := hN (Or.inr (Or.inr (by omega)))
        refine ⟨by congr 3; omega, a9, hM9, ?_⟩
        rw [show l = ((0 : Nat) : Int) by omega]
        exact hE.up hB.2.2.2.2.2 hp (Or.inr (Or.inr (by omega))) (by decide) ha9
    · refine r_iconst (pc2 := 176) dX0_sendsRight_175 rfl ?_
      refine r_goto (tgt := 180) dX0_sendsRight_176 (by decide) ?_
      refine r_cv2 (pc2 := 183) dX0_sendsRight_180 rfl vX0_92 (hKb hS hb_b) (by decide) (c_X0_setBits (d := d) (k := ix p) (x := 1) hS hb_b (by omega) (by omega)) ?_
      rintro _ M9 ⟨rfl, a9, hM9, ha9⟩
      show Go (Ct (d + 1)) _ yX0_sendsRight cX0_sendsRight (some .boolean) 0 0 183 [some (.ref (b)), some (.int (iI ((p : Nat) : Int))), some (.int (iI kd)), some (.int (iI l)), some (.long (u)), none, some (.int (iI ((4 * ix p : Nat) : Int))), some (.int (iI ((nib (M.2.2 b 12) (4 * ix p) : Nat) : Int))), none] [] M9
      refine r_iload7 (pc2 := 185) dX0_sendsRight_183 rfl ?_
      refine r_iconst (pc2 := 186) dX0_sendsRight_185 rfl ?_
      refine r_icne (tgt := 193) (pc2 := 189) dX0_sendsRight_186 rfl (by decide) ⟨by omega, by omega⟩ ⟨by omega, by omega⟩ (fun b_186 => ?_) (fun b_186 => ?_)
      · refine r_iconst (pc2 := 194) dX0_sendsRight_193 rfl ?_
        refine r_iretz dX0_sendsRight_194 rfl (by omega) ?_
        have e0 : aSend pc sz tr st kd p l sh = (sh p, va_up sh p l) := by unfold aSend; rw [if_neg (by omega), if_neg (by omega), if_neg (by omega), if_neg (by omega), if_neg (by omega), if_neg (by omega), if_pos (by omega)]
        rw [e0]
        have hn := hN (Or.inr (Or.inr (by omega)))
        refine ⟨by congr 3; omega, a9, hM9, ?_⟩
        rw [show l = ((1 : Nat) : Int) by omega]
        exact hE.up hB.2.2.2.2.2 hp (Or.inr (Or.inr (by omega))) (by decide) ha9
      · refine r_iconst (pc2 := 190) dX0_sendsRight_189 rfl ?_
        refine r_goto (tgt := 194) dX0_sendsRight_190 (by decide) ?_
        refine r_iretz dX0_sendsRight_194 rfl (by omega) ?_
        have e0 : aSend pc sz tr st kd p l sh = (sh p, va_up sh p l) := by unfold aSend; rw [if_neg (by omega), if_neg (by omega), if_neg (by omega), if_neg (by omega), if_neg (by omega), if_neg (by omega), if_pos (by omega)]
        rw [e0]
        have hn := hN (Or.inr (Or.inr (by omega)))
        refine ⟨by congr 3; omega, a9, hM9, ?_⟩
        rw [show l = ((1 : Nat) : Int) by omega]
        exact hE.up hB.2.2.2.2.2 hp (Or.inr (Or.inr (by omega))) (by decide) ha9
  refine r_tabOut (tgt := 195) dX0_sendsRight_27 ⟨by omega, by omega⟩ (by omega) (by decide) ?_
  refine r_iconst (pc2 := 196) dX0_sendsRight_195 rfl ?_
  refine r_iretz dX0_sendsRight_196 rfl (by omega) ?_
  have e0 : aSend pc sz tr st kd p l sh = (0, sh) := by unfold aSend; rw [if_pos (by omega)]
  rw [e0]
  exact ⟨rfl, ⟨M.2.2 b 12, pJ_self.symm, hE⟩⟩
set_option maxHeartbeats 8000000 in
theorem lp_X0_dropFrom {d : Nat} {Q : pQ} {b h : Nat} {v0 u : Int64} {st kd : Int} {pc sz tr : Nat → Int} {ix : Nat → Nat} (M0 : pM) (F : Int × (Nat → Int)) (hS0 : sOk M0.1) (hb_b : isB b) (hh : h < 4) (hB0 : cBd M0 b pc sz tr ix) (hst : stk pc tr ix st u) (hkd : M0.2.1 (b + 8) h = kd) (hkr : inR kd)
    (hQ : ∀ a2, BE pc ix a2 F.2 → Q (some (.int (iI F.1))) (pJ M0 b 12 a2)) :
    ∀ (n x : Nat) (l : Int) (sh : Nat → Int) (a : Int64) (x9 x10 : Option Value), n ≤ 12 → x < 13 → (l = 0 ∨ l = 1) → BE pc ix a sh → Wfb pc sz sh → aDr pc sz tr st kd n x l sh = F → Go (Ct (d + 2)) Q yX0_dropFrom cX0_dropFrom (some .int) 0 0 29 [some (.ref b), some (.long v0), none, some (.int (iI ((h : Nat) : Int))), some (.long u), none, some (.int (iI ((x : Nat) : Int))), some (.int (iI l)), some (.int (iI ((12 - n : Nat) : Int))), x9, x10] [] (pJ M0 b 12 a) := by
  intro n
  induction n with
  | zero =>
    intro x l sh a x9 x10 hn hx hl hE hw hF
    have hS : sOk (pJ M0 b 12 a).1 := hS0
    obtain ⟨M, hM⟩ : ∃ M, M = pJ M0 b 12 a := ⟨_, rfl⟩
    rw [← hM] at hS ⊢
    refine r_iload8 (pc2 := 31) dX0_dropFrom_29 rfl ?_
    refine r_bipush (pc2 := 33) dX0_dropFrom_31 rfl (by decide) (by decide) ?_
    refine r_icge (tgt := 156) (pc2 := 36) dX0_dropFrom_33 rfl (by decide) ⟨by omega, by omega⟩ ⟨by omega, by omega⟩ (fun b_33 => ?_) (fun b_33 => ?_)
    · refine r_iload6 (pc2 := 158) dX0_dropFrom_156 rfl ?_
      refine r_ireti dX0_dropFrom_158 rfl ?_
      have e1 : F.1 = (x : Int) := by rw [← hF]; rfl
      have e2 : F.2 = sh := by rw [← hF]; rfl
      have := hQ a (by rw [e2]; exact hE)
      rw [e1, ← hM] at this
      exact this
    · exact absurd b_33 (by omega)
  | succ n ih =>
    intro x l sh a x9 x10 hn hx hl hE hw hF
    have hS : sOk (pJ M0 b 12 a).1 := hS0
    obtain ⟨M, hM⟩ : ∃ M, M = pJ M0 b 12 a := ⟨_, rfl⟩
    have hB : cBd M b pc sz tr ix := by rw [hM]; exact hB0.J
    have hE1 : BE pc ix (M.2.2 b 12) sh := by rw [hM, pJ_at]; exact hE
    have hn2 : 12 - (n + 1) = 11 - n := by omega
    rw [← hM] at hS ⊢
    rw [hn2]
    have hp : 13 * (11 - n) + x < 156 := by omega
    have q1 : M.2.1 (b + 1) (13 * (11 - n) + x) = pc (13 * (11 - n) + x) := hB.1 _ hp
    have w1 := (hw _ hp).1
    have qk : M.2.1 (b + 8) h = kd := by rw [hM]; exact hkd
    have hs2 := aSend_wf (tr := tr) (st := st) (kd := kd) (l := l) hw hp hl
    unfold aDr at hF
    refine r_iload8 (pc2 := 31) dX0_dropFrom_29 rfl ?_
    refine r_bipush (pc2 := 33) dX0_dropFrom_31 rfl (by decide) (by decide) ?_
    refine r_icge (tgt := 156) (pc2 := 36) dX0_dropFrom_33 rfl (by decide) ⟨by omega, by omega⟩ ⟨by omega, by omega⟩ (fun b_33 => ?_) (fun b_33 => ?_)
    · refine r_iload6 (pc2 := 158) dX0_dropFrom_156 rfl ?_
      refine r_ireti dX0_dropFrom_158 rfl ?_
      exact absurd b_33 (by omega)
    · refine r_iload6 (pc2 := 38) dX0_dropFrom_36 rfl ?_
      refine r_iload8 (pc2 := 40) dX0_dropFrom_38 rfl ?_
      refine r_cs2 (pc2 := 43) dX0_dropFrom_40 rfl sX0_82 (by decide) (c_X11_placeOf (d := d + 1) (c := ((x : Nat) : Int)) (r := ((11 - n : Nat) : Int))) ?_
      rintro _ M9 ⟨rfl, h9⟩
      rw [h9]
      rw [show (13 * ((11 - n : Nat) : Int) + ((x : Nat) : Int)) = ((13 * (11 - n) + x : Nat) : Int) by omega]
      show Go (Ct (d + 2)) _ yX0_dropFrom cX0_dropFrom (some .int) 0 0 43 [some (.ref (b)), some (.long (v0)), none, some (.int (iI ((h : Nat) : Int))), some (.long (u)), none, some (.int (iI ((x : Nat) : Int))), some (.int (iI l)), some (.int (iI ((11 - n : Nat) : Int))), x9, x10] [.int (iI ((13 * (11 - n) + x : Nat) : Int))] M
      refine r_istore9 (pc2 := 45) dX0_dropFrom_43 rfl rfl ?_
      refine r_aload0 (pc2 := 46) dX0_dropFrom_45 rfl ?_
      refine r_getR (pc2 := 49) dX0_dropFrom_46 rfl fX0_9 (hKb hS hb_b) (hRb0 hS hb_b) ?_
      refine r_iload9 (pc2 := 51) dX0_dropFrom_49 rfl ?_
      refine r_iald (z := (pc (13 * (11 - n) + x))) (pc2 := 52) dX0_dropFrom_51 rfl (hKb1 hS hb_b) (13 * (11 - n) + x) rfl (by omega) q1 ?_
      refine r_istore10 (pc2 := 54) dX0_dropFrom_52 rfl rfl ?_
      refine r_iload10 (pc2 := 56) dX0_dropFrom_54 rfl ?_
      refine r_ifne (tgt := 62) (pc2 := 59) dX0_dropFrom_56 rfl (by decide) ⟨by omega, by omega⟩ (fun b_56 => ?_) (fun b_56 => ?_)
      · refine r_iload10 (pc2 := 64) dX0_dropFrom_62 rfl ?_
        refine r_iconst (pc2 := 65) dX0_dropFrom_64 rfl ?_
        refine r_icne (tgt := 78) (pc2 := 68) dX0_dropFrom_65 rfl (by decide) ⟨by omega, by omega⟩ ⟨by omega, by omega⟩ (fun b_65 => ?_) (fun b_65 => ?_)
        · refine r_iload10 (pc2 := 80) dX0_dropFrom_78 rfl ?_
          refine r_bipush (pc2 := 82) dX0_dropFrom_80 rfl (by decide) (by decide) ?_
          refine r_icne (tgt := 95) (pc2 := 85) dX0_dropFrom_82 rfl (by decide) ⟨by omega, by omega⟩ ⟨by omega, by omega⟩ (fun b_82 => ?_) (fun b_82 => ?_)
          · refine r_aload0 (pc2 := 96) dX0_dropFrom_95 rfl ?_
            refine r_iload9 (pc2 := 98) dX0_dropFrom_96 rfl ?_
            refine r_aload0 (pc2 := 99) dX0_dropFrom_98 rfl ?_
            refine r_getR (pc2 := 102) dX0_dropFrom_99 rfl fX0_34 (hKb hS hb_b) (hRb7 hS hb_b) ?_
            refine r_iload3 (pc2 := 103) dX0_dropFrom_102 rfl ?_
            refine r_iald (z := kd) (pc2 := 104) dX0_dropFrom_103 rfl (hKb8 hS hb_b) h rfl (by omega) qk ?_
            refine r_iload7 (pc2 := 106) dX0_dropFrom_104 rfl ?_
            refine r_lload4 (pc2 := 108) dX0_dropFrom_106 rfl ?_
            refine r_cv4 (pc2 := 111) dX0_dropFrom_108 rfl vX0_86 (hKb hS hb_b) (by decide) (c_X0_sendsRight (d := d) (pc := pc) (sz := sz) (tr := tr) (sh := sh) (ix := ix) (st := st) hS hb_b hp hkr hl hB hw hE1 hst ⟨by omega, by omega, by omega⟩) ?_
            rintro _ _ ⟨rfl, a9, rfl, hE9⟩
            rw [hM, pJ_pJ]
            have hn3 := aSend_n2 (tr := tr) (st := st) (kd := kd) (l := l) (sh := sh) (p := 13 * (11 - n) + x) (sz := sz) (pc := pc) (by omega) hl (hw _ hp).2.2.2.2.1
            show Go (Ct (d + 2)) _ yX0_dropFrom cX0_dropFrom (some .int) 0 0 111 [some (.ref (b)), some (.long (v0)), none, some (.int (iI ((h : Nat) : Int))), some (.long (u)), none, some (.int (iI ((x : Nat) : Int))), some (.int (iI l)), some (.int (iI ((11 - n : Nat) : Int))), some (.int (iI ((13 * (11 - n) + x : Nat) : Int))), some (.int (iI (pc (13 * (11 - n) + x))))] [.int (iI (aSend pc sz tr st kd (13 * (11 - n) + x) l sh).1)] (pJ M0 b 12 a9)
            refine r_istore7 (pc2 := 113) dX0_dropFrom_111 rfl rfl ?_
            refine r_iload6 (pc2 := 115) dX0_dropFrom_113 rfl ?_
            refine r_iload7 (pc2 := 117) dX0_dropFrom_115 rfl ?_
            refine r_ifeq (tgt := 124) (pc2 := 120) dX0_dropFrom_117 rfl (by decide) ⟨by omega, by omega⟩ (fun b_117 => ?_) (fun b_117 => ?_)
            · refine r_iconst (pc2 := 125) dX0_dropFrom_124 rfl ?_
              refine r_iadd (c := (((x : Nat) : Int) + (-1))) (pc2 := 126) dX0_dropFrom_125 rfl rfl ?_
              refine r_istore6 (pc2 := 128) dX0_dropFrom_126 rfl rfl ?_
              refine r_iload6 (pc2 := 130) dX0_dropFrom_128 rfl ?_
              refine r_iflt (tgt := 140) (pc2 := 133) dX0_dropFrom_130 rfl (by decide) ⟨by omega, by omega⟩ (fun b_130 => ?_) (fun b_130 => ?_)
              · refine r_sipush (pc2 := 143) dX0_dropFrom_140 rfl (by decide) (by decide) ?_
                refine r_bipush (pc2 := 145) dX0_dropFrom_143 rfl (by decide) (by decide) ?_
                refine r_iload8 (pc2 := 147) dX0_dropFrom_145 rfl ?_
                refine r_imul (c := (16 * ((11 - n : Nat) : Int))) (pc2 := 148) dX0_dropFrom_147 rfl rfl ?_
                refine r_iadd (c := (768 + (16 * ((11 - n : Nat) : Int)))) (pc2 := 149) dX0_dropFrom_148 rfl rfl ?_
                refine r_ireti dX0_dropFrom_149 rfl ?_
                rw [if_neg (by omega), if_neg (by omega), if_neg (by omega), if_pos (by omega), if_pos (by omega)] at hF
                have := hQ a9 (by rw [← hF]; exact hE9)
                rw [← hF] at this
                exact this
              · refine r_iload6 (pc2 := 135) dX0_dropFrom_133 rfl ?_
                refine r_bipush (pc2 := 137) dX0_dropFrom_135 rfl (by decide) (by decide) ?_
                refine r_iclt (tgt := 150) (pc2 := 140) dX0_dropFrom_137 rfl (by decide) ⟨by omega, by omega⟩ ⟨by omega, by omega⟩ (fun b_137 => ?_) (fun b_137 => ?_)
                · refine r_iinc8 (z := ((12 - n : Nat) : Int)) (pc2 := 153) dX0_dropFrom_150 rfl (by omega) rfl ?_
                  refine r_goto (tgt := 29) dX0_dropFrom_153 (by decide) ?_
                  rw [if_neg (by omega), if_neg (by omega), if_neg (by omega), if_pos (by omega), if_neg (by omega)] at hF
                  rw [show ((x : Nat) : Int) + (-1) = ((x - 1 : Nat) : Int) by omega, show (aSend pc sz tr st kd (13 * (11 - n) + x) l sh).1 = 0 by omega]
                  exact ih (x - 1) 0 _ a9 _ _ (by omega) (by omega) (Or.inl rfl) hE9 hs2.1 hF
                · refine r_sipush (pc2 := 143) dX0_dropFrom_140 rfl (by decide) (by decide) ?_
                  refine r_bipush (pc2 := 145) dX0_dropFrom_143 rfl (by decide) (by decide) ?_
                  refine r_iload8 (pc2 := 147) dX0_dropFrom_145 rfl ?_
                  refine r_imul (c := (16 * ((11 - n : Nat) : Int))) (pc2 := 148) dX0_dropFrom_147 rfl rfl ?_
                  refine r_iadd (c := (768 + (16 * ((11 - n : Nat) : Int)))) (pc2 := 149) dX0_dropFrom_148 rfl rfl ?_
                  refine r_ireti dX0_dropFrom_149 rfl ?_
                  exact absurd b_137 (by omega)
            · refine r_iconst (pc2 := 121) dX0_dropFrom_120 rfl ?_
              refine r_goto (tgt := 125) dX0_dropFrom_121 (by decide) ?_
              refine r_iadd (c := ((x + 1 : Nat) : Int)) (pc2 := 126) dX0_dropFrom_125 rfl (by omega) ?_
              refine r_istore6 (pc2 := 128) dX0_dropFrom_126 rfl rfl ?_
              refine r_iload6 (pc2 := 130) dX0_dropFrom_128 rfl ?_
              refine r_iflt (tgt := 140) (pc2 := 133) dX0_dropFrom_130 rfl (by decide) ⟨by omega, by omega⟩ (fun b_130 => ?_) (fun b_130 => ?_)
              · refine r_sipush (pc2 := 143) dX0_dropFrom_140 rfl (by decide) (by decide) ?_
                refine r_bipush (pc2 := 145) dX0_dropFrom_143 rfl (by decide) (by decide) ?_
                refine r_iload8 (pc2 := 147) dX0_dropFrom_145 rfl ?_
                refine r_imul (c := (16 * ((11 - n : Nat) : Int))) (pc2 := 148) dX0_dropFrom_147 rfl rfl ?_
                refine r_iadd (c := (768 + (16 * ((11 - n : Nat) : Int)))) (pc2 := 149) dX0_dropFrom_148 rfl rfl ?_
                refine r_ireti dX0_dropFrom_149 rfl ?_
                exact absurd b_130 (by omega)
              · refine r_iload6 (pc2 := 135) dX0_dropFrom_133 rfl ?_
                refine r_bipush (pc2 := 137) dX0_dropFrom_135 rfl (by decide) (by decide) ?_
                refine r_iclt (tgt := 150) (pc2 := 140) dX0_dropFrom_137 rfl (by decide) ⟨by omega, by omega⟩ ⟨by omega, by omega⟩ (fun b_137 => ?_) (fun b_137 => ?_)
                · refine r_iinc8 (z := ((12 - n : Nat) : Int)) (pc2 := 153) dX0_dropFrom_150 rfl (by omega) rfl ?_
                  refine r_goto (tgt := 29) dX0_dropFrom_153 (by decide) ?_
                  rw [if_neg (by omega), if_neg (by omega), if_neg (by omega), if_neg (by omega), if_neg (by omega)] at hF
                  rw [show (aSend pc sz tr st kd (13 * (11 - n) + x) l sh).1 = 1 by omega]
                  exact ih (x + 1) 1 _ a9 _ _ (by omega) (by omega) (Or.inr rfl) hE9 hs2.1 hF
                · refine r_sipush (pc2 := 143) dX0_dropFrom_140 rfl (by decide) (by decide) ?_
                  refine r_bipush (pc2 := 145) dX0_dropFrom_143 rfl (by decide) (by decide) ?_
                  refine r_iload8 (pc2 := 147) dX0_dropFrom_145 rfl ?_
                  refine r_imul (c := (16 * ((11 - n : Nat) : Int))) (pc2 := 148) dX0_dropFrom_147 rfl rfl ?_
                  refine r_iadd (c := (768 + (16 * ((11 - n : Nat) : Int)))) (pc2 := 149) dX0_dropFrom_148 rfl rfl ?_
                  refine r_ireti dX0_dropFrom_149 rfl ?_
                  rw [if_neg (by omega), if_neg (by omega), if_neg (by omega), if_neg (by omega), if_pos (by omega)] at hF
                  have := hQ a9 (by rw [← hF]; exact hE9)
                  rw [← hF] at this
                  exact this
          · refine r_sipush (pc2 := 88) dX0_dropFrom_85 rfl (by decide) (by decide) ?_
            refine r_bipush (pc2 := 90) dX0_dropFrom_88 rfl (by decide) (by decide) ?_
            refine r_iload8 (pc2 := 92) dX0_dropFrom_90 rfl ?_
            refine r_imul (c := (16 * ((11 - n : Nat) : Int))) (pc2 := 93) dX0_dropFrom_92 rfl rfl ?_
            refine r_iadd (c := (512 + (16 * ((11 - n : Nat) : Int)))) (pc2 := 94) dX0_dropFrom_93 rfl rfl ?_
            refine r_ireti dX0_dropFrom_94 rfl ?_
            rw [if_neg (by omega), if_pos (by omega)] at hF
            have := hQ a (by rw [← hF]; exact hE)
            rw [← hF, ← hM] at this
            exact this
        · refine r_sipush (pc2 := 71) dX0_dropFrom_68 rfl (by decide) (by decide) ?_
          refine r_bipush (pc2 := 73) dX0_dropFrom_71 rfl (by decide) (by decide) ?_
          refine r_iload8 (pc2 := 75) dX0_dropFrom_73 rfl ?_
          refine r_imul (c := (16 * ((11 - n : Nat) : Int))) (pc2 := 76) dX0_dropFrom_75 rfl rfl ?_
          refine r_iadd (c := (256 + (16 * ((11 - n : Nat) : Int)))) (pc2 := 77) dX0_dropFrom_76 rfl rfl ?_
          refine r_ireti dX0_dropFrom_77 rfl ?_
          rw [if_pos (by omega)] at hF
          have := hQ a (by rw [← hF]; exact hE)
          rw [← hF, ← hM] at this
          exact this
      · refine r_goto (tgt := 150) dX0_dropFrom_59 (by decide) ?_
        refine r_iinc8 (z := ((12 - n : Nat) : Int)) (pc2 := 153) dX0_dropFrom_150 rfl (by omega) rfl ?_
        refine r_goto (tgt := 29) dX0_dropFrom_153 (by decide) ?_
        have es : aSend pc sz tr st kd (13 * (11 - n) + x) l sh = (2, sh) := by unfold aSend; rw [if_neg (by omega), if_neg (by omega), if_neg (by omega), if_neg (by omega), if_neg (by omega), if_neg (by omega), if_neg (by omega)]
        rw [if_neg (by omega), if_neg (by omega), es, if_pos rfl] at hF
        rw [hM]
        exact ih x l sh a _ _ (by omega) hx hl hE hw hF
set_option maxHeartbeats 4000000 in
theorem c_X0_dropFrom {d : Nat} {M : pM} {b h x : Nat} {v0 u : Int64} {st kd : Int} {pc sz tr sh : Nat → Int} {ix : Nat → Nat} (hS : sOk M.1) (hb_b : isB b) (hh : h < 4) (hB : cBd M b pc sz tr ix) (hw : Wfb pc sz sh) (hE : BE pc ix v0 sh) (hst : stk pc tr ix st u) (hkd : M.2.1 (b + 8) h = kd) (hkr : inR kd) (hx : M.2.1 (b + 7) h = (x : Int)) (hx2 : x < 13) : Ct (d + 3) 0 0 yX0_dropFrom [.ref (b), .long (v0), .int (iI ((h : Nat) : Int)), .long (u)] M (fun v M2 => v = some (.int (iI (aDr pc sz tr st kd 12 x (if h % 2 = 0 then 1 else 0) sh).1)) ∧ ∃ a2, M2 = pJ M b 12 a2 ∧ BE pc ix a2 (aDr pc sz tr st kd 12 x (if h % 2 = 0 then 1 else 0) sh).2) := by
  refine ct_in (d := (d + 2)) kX0_dropFrom rfl (by decide) (Nat.le_of_ble_eq_true rfl) (by decide) ?_
  show Go (Ct (d + 2)) _ yX0_dropFrom cX0_dropFrom (some .int) 0 0 0 [some (.ref (b)), some (.long (v0)), none, some (.int (iI ((h : Nat) : Int))), some (.long (u)), none, none, none, none, none, none] [] M
  refine r_aload0 (pc2 := 1) dX0_dropFrom_0 rfl ?_
  refine r_lload1 (pc2 := 2) dX0_dropFrom_1 rfl ?_
  refine r_putJ (pc2 := 5) dX0_dropFrom_2 rfl fX0_79 (w0_12 _) (hKb hS hb_b) (isB_ge hb_b) ?_
  refine r_aload0 (pc2 := 6) dX0_dropFrom_5 rfl ?_
  refine r_getR (pc2 := 9) dX0_dropFrom_6 rfl fX0_31 (hKb hS hb_b) (hRb6 hS hb_b) ?_
  refine r_iload3 (pc2 := 10) dX0_dropFrom_9 rfl ?_
  refine r_iald (z := ((x : Nat) : Int)) (pc2 := 11) dX0_dropFrom_10 rfl (hKb7 hS hb_b) h rfl (by omega) hx ?_
  refine r_istore6 (pc2 := 13) dX0_dropFrom_11 rfl rfl ?_
  refine r_iload3 (pc2 := 14) dX0_dropFrom_13 rfl ?_
  refine r_iconst (pc2 := 15) dX0_dropFrom_14 rfl ?_
  refine r_irem (pc2 := 16) dX0_dropFrom_15 rfl (by omega) (by omega) (by omega) (by omega) ?_
  refine r_ifne (tgt := 23) (pc2 := 19) dX0_dropFrom_16 rfl (by decide) ⟨by omega, by omega⟩ (fun b_16 => ?_) (fun b_16 => ?_)
  · refine r_iconst (pc2 := 24) dX0_dropFrom_23 rfl ?_
    refine r_istore7 (pc2 := 26) dX0_dropFrom_24 rfl rfl ?_
    refine r_iconst (pc2 := 27) dX0_dropFrom_26 rfl ?_
    refine r_istore8 (pc2 := 29) dX0_dropFrom_27 rfl rfl ?_
    exact lp_X0_dropFrom M _ hS hb_b hh hB hst hkd hkr (fun a2 h2 => ⟨rfl, a2, rfl, h2⟩) 12 x _ sh v0 none none (by omega) hx2 (by omega) hE hw (by first | rfl | (rw [if_pos (by omega)]) | (rw [if_neg (by omega)]))
  · refine r_iconst (pc2 := 20) dX0_dropFrom_19 rfl ?_
    refine r_goto (tgt := 24) dX0_dropFrom_20 (by decide) ?_
    refine r_istore7 (pc2 := 26) dX0_dropFrom_24 rfl rfl ?_
    refine r_iconst (pc2 := 27) dX0_dropFrom_26 rfl ?_
    refine r_istore8 (pc2 := 29) dX0_dropFrom_27 rfl rfl ?_
    exact lp_X0_dropFrom M _ hS hb_b hh hB hst hkd hkr (fun a2 h2 => ⟨rfl, a2, rfl, h2⟩) 12 x _ sh v0 none none (by omega) hx2 (by omega) hE hw (by first | rfl | (rw [if_pos (by omega)]) | (rw [if_neg (by omega)]))
