/-! the class's Seen (256): firsts 257, seconds 258, parents 259, hoppers 260, cells 261, homes 262 -/
def occC (M : pM) (n : Nat) (c : Nat) : Option Nat := if M.2.1 261 c < (n : Int) ∧ M.2.1 262 (M.2.1 261 c).toNat = (c : Int) then some (M.2.1 261 c).toNat else none
def SN (M : pM) (n : Nat) (A B : Nat → Int64) : Prop := M.2.1 256 6 = (n : Int) ∧ n ≤ 4000 ∧ (∀ i, i < n → M.2.2 257 i = A i ∧ M.2.2 258 i = B i) ∧ (∀ c, c < 8192 → 0 ≤ M.2.1 261 c ∧ M.2.1 261 c < 4000) ∧ (∀ i, i < 4000 → 0 ≤ M.2.1 262 i ∧ M.2.1 262 i < 8192) ∧ HI (occC M n) n A B hC
theorem occC_some {M : pM} {n c i : Nat} (h : occC M n c = some i) (h0 : 0 ≤ M.2.1 261 c) : M.2.1 261 c = (i : Int) ∧ i < n := by
  unfold occC at h
  split at h
  · rename_i hc; cases h; omega
  · cases h
set_option maxHeartbeats 4000000 in
theorem c_X6_isTaken {d : Nat} {M : pM} {c n : Nat} {A B : Nat → Int64} (hS : sOk M.1) (hc : c < 8192) (hN : SN M n A B) : Ct (d + 1) 0 0 yX6_isTaken [.ref 256, .int (iI ((c : Nat) : Int))] M (fun v M2 => v = some (.int (iI (if occC M n c = none then 0 else 1))) ∧ M2 = M) := by
  refine ct_in (d := d) kX6_isTaken rfl (by decide) (Nat.le_of_ble_eq_true rfl) (by decide) ?_
  show Go (Ct d) _ yX6_isTaken cX6_isTaken (some .boolean) 0 0 0 [some (.ref 256), some (.int (iI ((c : Nat) : Int)))] [] M
  obtain ⟨s1, s2, s3, s4, s5, s6⟩ := hN
  have q1 := s4 c hc
  have q2 := s5 (M.2.1 261 c).toNat (by omega)
  refine r_aload0 (pc2 := 1) dX6_isTaken_0 rfl ?_
  refine r_getR (pc2 := 4) dX6_isTaken_1 rfl fX6_25 (hK_256 hS) (hR_256_4 hS) ?_
  refine r_iload1 (pc2 := 5) dX6_isTaken_4 rfl ?_
  refine r_iald (z := (M.2.1 261 c)) (pc2 := 6) dX6_isTaken_5 rfl (hK_261 hS) c rfl (by omega) rfl ?_
  refine r_aload0 (pc2 := 7) dX6_isTaken_6 rfl ?_
  refine r_getI (z := ((n : Nat) : Int)) (pc2 := 10) dX6_isTaken_7 rfl (Or.inl fX6_31) (hK_256 hS) s1 ?_
  refine r_icge (tgt := 32) (pc2 := 13) dX6_isTaken_10 rfl (by decide) ⟨by omega, by omega⟩ ⟨by omega, by omega⟩ (fun b_10 => ?_) (fun b_10 => ?_)
  · refine r_iconst (pc2 := 33) dX6_isTaken_32 rfl ?_
    refine r_iretz dX6_isTaken_33 rfl (by omega) ?_
    refine ⟨?_, rfl⟩
    congr 3
    by_cases ho : M.2.1 261 c < (n : Int) ∧ M.2.1 262 (M.2.1 261 c).toNat = (c : Int)
    · rw [show occC M n c = some (M.2.1 261 c).toNat from if_pos ho, if_neg (by intro q; cases q)]; omega
    · rw [show occC M n c = none from if_neg ho, if_pos rfl]
  · refine r_aload0 (pc2 := 14) dX6_isTaken_13 rfl ?_
    refine r_getR (pc2 := 17) dX6_isTaken_14 rfl fX6_28 (hK_256 hS) (hR_256_5 hS) ?_
    refine r_aload0 (pc2 := 18) dX6_isTaken_17 rfl ?_
    refine r_getR (pc2 := 21) dX6_isTaken_18 rfl fX6_25 (hK_256 hS) (hR_256_4 hS) ?_
    refine r_iload1 (pc2 := 22) dX6_isTaken_21 rfl ?_
    refine r_iald (z := (M.2.1 261 c)) (pc2 := 23) dX6_isTaken_22 rfl (hK_261 hS) c rfl (by omega) rfl ?_
    refine r_iald (z := (M.2.1 262 ((M.2.1 261 c)).toNat)) (pc2 := 24) dX6_isTaken_23 rfl (hK_262 hS) ((M.2.1 261 c)).toNat (by omega) (by omega) rfl ?_
    refine r_iload1 (pc2 := 25) dX6_isTaken_24 rfl ?_
    refine r_icne (tgt := 32) (pc2 := 28) dX6_isTaken_25 rfl (by decide) ⟨by omega, by omega⟩ ⟨by omega, by omega⟩ (fun b_25 => ?_) (fun b_25 => ?_)
    · refine r_iconst (pc2 := 33) dX6_isTaken_32 rfl ?_
      refine r_iretz dX6_isTaken_33 rfl (by omega) ?_
      refine ⟨?_, rfl⟩
      congr 3
      by_cases ho : M.2.1 261 c < (n : Int) ∧ M.2.1 262 (M.2.1 261 c).toNat = (c : Int)
      · rw [show occC M n c = some (M.2.1 261 c).toNat from if_pos ho, if_neg (by intro q; cases q)]; omega
      · rw [show occC M n c = none from if_neg ho, if_pos rfl]
    · refine r_iconst (pc2 := 29) dX6_isTaken_28 rfl ?_
      refine r_goto (tgt := 33) dX6_isTaken_29 (by decide) ?_
      refine r_iretz dX6_isTaken_33 rfl (by omega) ?_
      refine ⟨?_, rfl⟩
      congr 3
      by_cases ho : M.2.1 261 c < (n : Int) ∧ M.2.1 262 (M.2.1 261 c).toNat = (c : Int)
      · rw [show occC M n c = some (M.2.1 261 c).toNat from if_pos ho, if_neg (by intro q; cases q)]
      · rw [show occC M n c = none from if_neg ho, if_pos rfl]; omega
set_option maxHeartbeats 4000000 in
theorem lp_X6_cellOf {d : Nat} {Q : pQ} {a b : Int64} {M : pM} {n : Nat} {A B : Nat → Int64} (hS : sOk M.1) (hN : SN M n A B) (hQ : ∀ t, t < 8192 → HW (occC M n) A B (hC a b) t a b → (occC M n ((hC a b + t) % 8192) = none ∨ ∃ i, occC M n ((hC a b + t) % 8192) = some i ∧ A i = a ∧ B i = b) → Q (some (.int (iI (((hC a b + t) % 8192 : Nat) : Int)))) M) :
    ∀ (m u : Nat), u + m = 8192 → HW (occC M n) A B (hC a b) u a b → Go (Ct (d + 1)) Q yX6_cellOf cX6_cellOf (some .int) 0 0 24 [some (.ref 256), some (.long a), none, some (.long b), none, some (.long ((a * (-7046029254386353131) + b) * (-4417276706812531889))), none, some (.int (iI (((hC a b + u) % 8192 : Nat) : Int))), some (.int (iI ((u : Nat) : Int)))] [] M := by
  intro m
  induction m with
  | zero =>
    intro u hu hw
    exact absurd (HW.free hN.2.2.2.2.2 (by have := hN.2.1; omega) hw) (by omega)
  | succ m ih =>
    intro u hu hw
    have hN2 := hN
    obtain ⟨s1, s2, s3, s4, s5, s6⟩ := hN
    have hcl : (hC a b + u) % 8192 < 8192 := Nat.mod_lt _ (by decide)
    have q1 := s4 _ hcl
    have hoc : ∀ i, occC M n ((hC a b + u) % 8192) = some i → M.2.1 261 ((hC a b + u) % 8192) = (i : Int) ∧ i < n := fun i h => occC_some h q1.1
    refine r_iload8 (pc2 := 26) dX6_cellOf_24 rfl ?_
    refine r_sipush (pc2 := 29) dX6_cellOf_26 rfl (by decide) (by decide) ?_
    refine r_icge (tgt := 94) (pc2 := 32) dX6_cellOf_29 rfl (by decide) ⟨by omega, by omega⟩ ⟨by omega, by omega⟩ (fun b_29 => ?_) (fun b_29 => ?_)
    · refine r_iload7 (pc2 := 96) dX6_cellOf_94 rfl ?_
      refine r_ireti dX6_cellOf_96 rfl ?_
      exact absurd b_29 (by omega)
    · refine r_aload0 (pc2 := 33) dX6_cellOf_32 rfl ?_
      refine r_iload7 (pc2 := 35) dX6_cellOf_33 rfl ?_
      refine r_cv1 (pc2 := 38) dX6_cellOf_35 rfl vX6_48 (hK_256 hS) (by decide) (c_X6_isTaken (d := d) (c := (hC a b + u) % 8192) hS hcl hN2) ?_
      rintro _ M9 ⟨rfl, h9⟩
      rw [h9]
      show Go (Ct (d + 1)) _ yX6_cellOf cX6_cellOf (some .int) 0 0 38 [some (.ref 256), some (.long (a)), none, some (.long (b)), none, some (.long ((a * (-7046029254386353131) + b) * (-4417276706812531889))), none, some (.int (iI (((hC a b + u) % 8192 : Nat) : Int))), some (.int (iI ((u : Nat) : Int)))] [.int (iI (if occC M n ((hC a b + u) % 8192) = none then 0 else 1))] M
      refine r_ifeq (tgt := 94) (pc2 := 41) dX6_cellOf_38 rfl (by decide) ⟨by omega, by omega⟩ (fun b_38 => ?_) (fun b_38 => ?_)
      · refine r_iload7 (pc2 := 96) dX6_cellOf_94 rfl ?_
        refine r_ireti dX6_cellOf_96 rfl ?_
        refine hQ u (by omega) hw (Or.inl ?_)
        cases ho : occC M n ((hC a b + u) % 8192) with
        | none => rfl
        | some i => rw [ho, if_neg (by intro q; cases q)] at b_38; exact absurd b_38 (by decide)
      · refine r_aload0 (pc2 := 42) dX6_cellOf_41 rfl ?_
        refine r_getR (pc2 := 45) dX6_cellOf_42 rfl fX6_11 (hK_256 hS) (hR_256_0 hS) ?_
        refine r_aload0 (pc2 := 46) dX6_cellOf_45 rfl ?_
        refine r_getR (pc2 := 49) dX6_cellOf_46 rfl fX6_25 (hK_256 hS) (hR_256_4 hS) ?_
        refine r_iload7 (pc2 := 51) dX6_cellOf_49 rfl ?_
        refine r_iald (z := (M.2.1 261 ((hC a b + u) % 8192))) (pc2 := 52) dX6_cellOf_51 rfl (hK_261 hS) ((hC a b + u) % 8192) rfl (by omega) rfl ?_
        refine r_lald (z := (M.2.2 257 (M.2.1 261 ((hC a b + u) % 8192)).toNat)) (pc2 := 53) dX6_cellOf_52 rfl (hK_257 hS) (M.2.1 261 ((hC a b + u) % 8192)).toNat (by omega) (by omega) rfl ?_
        refine r_lload1 (pc2 := 54) dX6_cellOf_53 rfl ?_
        refine r_lcmp (pc2 := 55) dX6_cellOf_54 rfl ?_
        have lr54 := lcm_r ((M.2.2 257 (M.2.1 261 ((hC a b + u) % 8192)).toNat)) (a)
        rw [lg_iI]
        refine r_ifne (tgt := 78) (pc2 := 58) dX6_cellOf_55 rfl (by decide) ⟨by omega, by omega⟩ (fun b_55 => ?_) (fun b_55 => ?_)
        · refine r_iload7 (pc2 := 80) dX6_cellOf_78 rfl ?_
          refine r_iconst (pc2 := 81) dX6_cellOf_80 rfl ?_
          refine r_iadd (c := ((((hC a b + u) % 8192 : Nat) : Int) + 1)) (pc2 := 82) dX6_cellOf_81 rfl rfl ?_
          refine r_sipush (pc2 := 85) dX6_cellOf_82 rfl (by decide) (by decide) ?_
          refine r_irem (pc2 := 86) dX6_cellOf_85 rfl (by omega) (by omega) (by omega) (by omega) ?_
          refine r_istore7 (pc2 := 88) dX6_cellOf_86 rfl rfl ?_
          refine r_iinc8 (z := ((u + 1 : Nat) : Int)) (pc2 := 91) dX6_cellOf_88 rfl (by omega) rfl ?_
          refine r_goto (tgt := 24) dX6_cellOf_91 (by decide) ?_
          cases ho : occC M n ((hC a b + u) % 8192) with
          | none => rw [ho, if_pos rfl] at b_38; exact absurd rfl b_38
          | some i =>
            obtain ⟨o1, o2⟩ := hoc i ho
            have o3 := s3 i o2
            have o4 : (M.2.1 261 ((hC a b + u) % 8192)).toNat = i := by omega
            rw [o4, o3.1] at lr54 b_55
            rw [show ((((hC a b + u) % 8192 : Nat) : Int) + 1) % 8192 = (((hC a b + (u + 1)) % 8192 : Nat) : Int) by omega]
            refine ih (u + 1) (by omega) (fun z hz => ?_)
            by_cases e9 : z = u
            · subst e9; exact ⟨i, ho, fun h => b_55 (lr54.2.2.mpr h.1)⟩
            · exact hw z (by omega)
        · refine r_aload0 (pc2 := 59) dX6_cellOf_58 rfl ?_
          refine r_getR (pc2 := 62) dX6_cellOf_59 rfl fX6_15 (hK_256 hS) (hR_256_1 hS) ?_
          refine r_aload0 (pc2 := 63) dX6_cellOf_62 rfl ?_
          refine r_getR (pc2 := 66) dX6_cellOf_63 rfl fX6_25 (hK_256 hS) (hR_256_4 hS) ?_
          refine r_iload7 (pc2 := 68) dX6_cellOf_66 rfl ?_
          refine r_iald (z := (M.2.1 261 ((hC a b + u) % 8192))) (pc2 := 69) dX6_cellOf_68 rfl (hK_261 hS) ((hC a b + u) % 8192) rfl (by omega) rfl ?_
          refine r_lald (z := (M.2.2 258 (M.2.1 261 ((hC a b + u) % 8192)).toNat)) (pc2 := 70) dX6_cellOf_69 rfl (hK_258 hS) (M.2.1 261 ((hC a b + u) % 8192)).toNat (by omega) (by omega) rfl ?_
          refine r_lload3 (pc2 := 71) dX6_cellOf_70 rfl ?_
          refine r_lcmp (pc2 := 72) dX6_cellOf_71 rfl ?_
          have lr71 := lcm_r ((M.2.2 258 (M.2.1 261 ((hC a b + u) % 8192)).toNat)) (b)
          rw [lg_iI]
          refine r_ifne (tgt := 78) (pc2 := 75) dX6_cellOf_72 rfl (by decide) ⟨by omega, by omega⟩ (fun b_72 => ?_) (fun b_72 => ?_)
          · refine r_iload7 (pc2 := 80) dX6_cellOf_78 rfl ?_
            refine r_iconst (pc2 := 81) dX6_cellOf_80 rfl ?_
            refine r_iadd (c := ((((hC a b + u) % 8192 : Nat) : Int) + 1)) (pc2 := 82) dX6_cellOf_81 rfl rfl ?_
            refine r_sipush (pc2 := 85) dX6_cellOf_82 rfl (by decide) (by decide) ?_
            refine r_irem (pc2 := 86) dX6_cellOf_85 rfl (by omega) (by omega) (by omega) (by omega) ?_
            refine r_istore7 (pc2 := 88) dX6_cellOf_86 rfl rfl ?_
            refine r_iinc8 (z := ((u + 1 : Nat) : Int)) (pc2 := 91) dX6_cellOf_88 rfl (by omega) rfl ?_
            refine r_goto (tgt := 24) dX6_cellOf_91 (by decide) ?_
            cases ho : occC M n ((hC a b + u) % 8192) with
            | none => rw [ho, if_pos rfl] at b_38; exact absurd rfl b_38
            | some i =>
              obtain ⟨o1, o2⟩ := hoc i ho
              have o3 := s3 i o2
              have o4 : (M.2.1 261 ((hC a b + u) % 8192)).toNat = i := by omega
              rw [o4, o3.2] at lr71 b_72
              rw [show ((((hC a b + u) % 8192 : Nat) : Int) + 1) % 8192 = (((hC a b + (u + 1)) % 8192 : Nat) : Int) by omega]
              refine ih (u + 1) (by omega) (fun z hz => ?_)
              by_cases e9 : z = u
              · subst e9; exact ⟨i, ho, fun h => b_72 (lr71.2.2.mpr h.2)⟩
              · exact hw z (by omega)
          · refine r_iload7 (pc2 := 77) dX6_cellOf_75 rfl ?_
            refine r_ireti dX6_cellOf_77 rfl ?_
            cases ho : occC M n ((hC a b + u) % 8192) with
            | none => rw [ho, if_pos rfl] at b_38; exact absurd rfl b_38
            | some i =>
              obtain ⟨o1, o2⟩ := hoc i ho
              have o3 := s3 i o2
              have o4 : (M.2.1 261 ((hC a b + u) % 8192)).toNat = i := by omega
              rw [o4, o3.1] at lr54
              rw [o4] at b_55 b_72 lr71
              rw [o3.1] at b_55
              rw [o3.2] at b_72 lr71
              exact hQ u (by omega) hw (Or.inr ⟨i, ho, lr54.2.2.mp b_55, lr71.2.2.mp b_72⟩)
set_option maxHeartbeats 4000000 in
theorem c_X6_cellOf {d : Nat} {M : pM} {a b : Int64} {n : Nat} {A B : Nat → Int64} (hS : sOk M.1) (hN : SN M n A B) : Ct (d + 2) 0 0 yX6_cellOf [.ref 256, .long (a), .long (b)] M (fun v M2 => ∃ t, t < 8192 ∧ v = some (.int (iI (((hC a b + t) % 8192 : Nat) : Int))) ∧ M2 = M ∧ HW (occC M n) A B (hC a b) t a b ∧ (occC M n ((hC a b + t) % 8192) = none ∨ ∃ i, occC M n ((hC a b + t) % 8192) = some i ∧ A i = a ∧ B i = b)) := by
  refine ct_in (d := (d + 1)) kX6_cellOf rfl (by decide) (Nat.le_of_ble_eq_true rfl) (by decide) ?_
  show Go (Ct (d + 1)) _ yX6_cellOf cX6_cellOf (some .int) 0 0 0 [some (.ref 256), some (.long (a)), none, some (.long (b)), none, none, none, none, none] [] M
  refine r_lload1 (pc2 := 1) dX6_cellOf_0 rfl ?_
  refine r_ldc2 (pc2 := 4) dX6_cellOf_1 rfl lX6_56 ?_
  refine r_lmul (pc2 := 5) dX6_cellOf_4 rfl ?_
  refine r_lload3 (pc2 := 6) dX6_cellOf_5 rfl ?_
  refine r_ladd (pc2 := 7) dX6_cellOf_6 rfl ?_
  refine r_ldc2 (pc2 := 10) dX6_cellOf_7 rfl lX6_58 ?_
  refine r_lmul (pc2 := 11) dX6_cellOf_10 rfl ?_
  refine r_lstore5 (pc2 := 13) dX6_cellOf_11 rfl rfl ?_
  refine r_lload5 (pc2 := 15) dX6_cellOf_13 rfl ?_
  refine r_bipush (pc2 := 17) dX6_cellOf_15 rfl (by decide) (by decide) ?_
  refine r_lushr (pc2 := 18) dX6_cellOf_17 rfl ?_
  refine r_l2i (pc2 := 19) dX6_cellOf_18 rfl ?_
  rw [hC_e]
  show Go _ _ yX6_cellOf cX6_cellOf _ _ _ _ _ [.int (iI ((hC a b : Nat) : Int))] _
  refine r_istore7 (pc2 := 21) dX6_cellOf_19 rfl rfl ?_
  refine r_iconst (pc2 := 22) dX6_cellOf_21 rfl ?_
  refine r_istore8 (pc2 := 24) dX6_cellOf_22 rfl rfl ?_
  have hh := hC_lt a b
  rw [show ((hC a b : Nat) : Int) = (((hC a b + 0) % 8192 : Nat) : Int) by omega]
  exact lp_X6_cellOf (d := d) hS hN (fun t h1 h2 h3 => ⟨t, h1, rfl, rfl, h2, h3⟩) 8192 0 (by omega) (fun u hu => absurd hu (by omega))
