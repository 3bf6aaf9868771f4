theorem tk_lr {s : Nat → Int} : ∀ k, 18 ≤ (tk s k).2.1 ∧ (tk s k).2.1 ≤ 59 := by
  intro k
  cases k with
  | zero => exact ⟨by show (18 : Int) ≤ 21; decide, by show (21 : Int) ≤ 59; decide⟩
  | succ k =>
    show 18 ≤ (tk1 s k (tk s k)).2.1 ∧ (tk1 s k (tk s k)).2.1 ≤ 59
    have hr := srt_r (c := s k)
    unfold tk1
    split
    · simp only; omega
    · split
      · exact ⟨by show (18 : Int) ≤ 21; decide, by show (21 : Int) ≤ 59; decide⟩
      · simp only; omega
/-! the class's Tape.cut (3: words 4, signs 5, kinds 6, starts 7, values 8; length 5, tokens 6) -/
theorem jL_add (a b : Int) : jL a + jL b = jL (a + b) := Int64.toInt_inj.mp (by
  show (Int64.ofInt a + Int64.ofInt b).toInt = (Int64.ofInt (a + b)).toInt
  rw [Int64.toInt_add, Int64.toInt_ofInt, Int64.toInt_ofInt, Int64.toInt_ofInt]
  show (a.bmod 18446744073709551616 + b.bmod 18446744073709551616).bmod 18446744073709551616 = (a + b).bmod 18446744073709551616
  rw [Int.bmod_add_bmod, Int.add_bmod_bmod])
theorem jL_sub (a b : Int) : jL a - jL b = jL (a - b) := Int64.toInt_inj.mp (by
  show (Int64.ofInt a - Int64.ofInt b).toInt = (Int64.ofInt (a - b)).toInt
  rw [Int64.toInt_sub, Int64.toInt_ofInt, Int64.toInt_ofInt, Int64.toInt_ofInt]
  show (a.bmod 18446744073709551616 - b.bmod 18446744073709551616).bmod 18446744073709551616 = (a - b).bmod 18446744073709551616
  rw [Int.bmod_sub_bmod, Int.sub_bmod_bmod])
theorem jL_mul (a b : Int) : jL a * jL b = jL (a * b) := Int64.toInt_inj.mp (by
  show (Int64.ofInt a * Int64.ofInt b).toInt = (Int64.ofInt (a * b)).toInt
  rw [Int64.toInt_mul, Int64.toInt_ofInt, Int64.toInt_ofInt, Int64.toInt_ofInt]
  show (a.bmod 18446744073709551616 * b.bmod 18446744073709551616).bmod 18446744073709551616 = (a * b).bmod 18446744073709551616
  rw [Int.bmod_mul_bmod, Int.mul_bmod_bmod])
theorem jL_nat (n : Nat) : jL ((n : Nat) : Int) = lN n := by rw [jL_lN (by omega), Int.toNat_natCast]
theorem wl_step {c : Nat} {z : Int} (hz : 0 ≤ z ∧ z < 256) (hc : c * 256 + 256 ≤ 2 ^ 64) : ((lN c) <<< (Int32.toInt64 (iI 8) &&& 63)) ||| (jL z) = lN (c * 256 + z.toNat) := by
  have e : iI 8 = nI 8 := iI_nat 8
  rw [e, wb_shl c (by decide), jL_lN hz.1, wb_or (by omega) (by omega)]
  congr 1
  rw [Nat.mul_comm c, ← Nat.two_pow_add_eq_or_of_lt (i := 8) (by omega)]
theorem nm_step {c : Nat} {z : Int} (hz : 48 ≤ z) : (10 : Int64) * (lN c) + (jL z) - 48 = lN (10 * c + (z.toNat - 48)) := by
  have e1 : (10 : Int64) = jL 10 := rfl
  have e2 : (48 : Int64) = jL 48 := rfl
  rw [e1, e2, ← jL_nat, ← jL_nat, jL_mul, jL_add, jL_sub]
  congr 1
  omega
def k0d (s : Nat → Int) (a e : Nat) : Int := if srt (s a) = 18 then (if e - a ≤ 8 then 18 else 20) else if srt (s a) = 19 then (if e - a ≤ 3 then 19 else 20) else srt (s a)
/-- token i as the class has it while it cuts -/
def cTk (M : pM) (s : Nat → Int) (a e i : Nat) : Prop := M.2.1 7 i = (a : Int) ∧ M.2.1 6 i = k0d s a e ∧ (srt (s a) = 18 → e - a ≤ 8 → M.2.2 8 i = lN (e256 s a (e - a))) ∧ (srt (s a) = 19 → e - a ≤ 3 → M.2.2 8 i = lN (e10 s a (e - a)))
def CTk (M : pM) (s : Nat → Int) (t : tkS) : Prop := M.2.1 3 6 = (t.1 : Int) ∧ ∀ i, i < t.1 → cTk M s (t.2.2.1 i) (t.2.2.2 i) i
theorem cTk.of {M M2 : pM} {s : Nat → Int} {a e i : Nat} (h : cTk M s a e i) (h1 : M2.2.1 7 i = M.2.1 7 i) (h2 : M2.2.1 6 i = M.2.1 6 i) (h3 : M2.2.2 8 i = M.2.2 8 i) : cTk M2 s a e i := by unfold cTk; rw [h1, h2, h3]; exact h

set_option maxHeartbeats 4000000 in
theorem c_X8_begin {d : Nat} {M : pM} {k n : Nat} {z c : Int} (hS : sOk M.1) (hk : k < 1000) (hn : M.2.1 3 6 = (n : Int)) (hn2 : n ≤ 1000) (hc : M.2.1 5 k = c) (hcr : 0 ≤ c ∧ c ≤ 126) (hz : inR z) : Ct (d + 1) 0 0 yX8_begin [.ref 3, .int (iI ((k : Nat) : Int)), .int (iI z)] M (fun v M2 => v = none ∧ fr [3, 6, 7, 8] M M2 ∧ M2.2.1 6 = va_up (M.2.1 6) n z ∧ M2.2.1 7 = va_up (M.2.1 7) n ((k : Nat) : Int) ∧ M2.2.2 8 = va_up (M.2.2 8) n (jL (if z = 19 then c - 48 else c)) ∧ M2.2.1 3 = va_up (M.2.1 3) 6 (((n + 1 : Nat)) : Int)) := by
  refine ct_in (d := d) kX8_begin rfl (by decide) (Nat.le_of_ble_eq_true rfl) (by decide) ?_
  show Go (Ct d) _ yX8_begin cX8_begin none 0 0 0 [some (.ref 3), some (.int (iI ((k : Nat) : Int))), some (.int (iI z))] [] M
  obtain ⟨z1, z2⟩ := hz
  refine r_aload0 (pc2 := 1) dX8_begin_0 rfl ?_
  refine r_getR (pc2 := 4) dX8_begin_1 rfl fX8_19 (hK_3 hS) (hR_3_2 hS) ?_
  refine r_aload0 (pc2 := 5) dX8_begin_4 rfl ?_
  refine r_getI (z := ((n : Nat) : Int)) (pc2 := 8) dX8_begin_5 rfl (Or.inl fX8_44) (hK_3 hS) hn ?_
  refine r_iload2 (pc2 := 9) dX8_begin_8 rfl ?_
  refine r_iast (z := z) (pc2 := 10) dX8_begin_9 rfl (hK_6 hS) (by decide) n rfl (by omega) ?_
  refine r_aload0 (pc2 := 11) dX8_begin_10 rfl ?_
  refine r_getR (pc2 := 14) dX8_begin_11 rfl fX8_23 (hK_3 hS) (hR_3_3 hS) ?_
  refine r_aload0 (pc2 := 15) dX8_begin_14 rfl ?_
  refine r_getI (z := ((n : Nat) : Int)) (pc2 := 18) dX8_begin_15 rfl (Or.inl fX8_44) (hK_3 hS) hn ?_
  refine r_iload1 (pc2 := 19) dX8_begin_18 rfl ?_
  refine r_iast (z := ((k : Nat) : Int)) (pc2 := 20) dX8_begin_19 rfl (hK_7 hS) (by decide) n rfl (by omega) ?_
  refine r_aload0 (pc2 := 21) dX8_begin_20 rfl ?_
  refine r_getR (pc2 := 24) dX8_begin_21 rfl fX8_26 (hK_3 hS) (hR_3_4 hS) ?_
  refine r_aload0 (pc2 := 25) dX8_begin_24 rfl ?_
  refine r_getI (z := ((n : Nat) : Int)) (pc2 := 28) dX8_begin_25 rfl (Or.inl fX8_44) (hK_3 hS) hn ?_
  refine r_iload2 (pc2 := 29) dX8_begin_28 rfl ?_
  refine r_bipush (pc2 := 31) dX8_begin_29 rfl (by decide) (by decide) ?_
  refine r_icne (tgt := 47) (pc2 := 34) dX8_begin_31 rfl (by decide) ⟨by omega, by omega⟩ ⟨by omega, by omega⟩ (fun b_31 => ?_) (fun b_31 => ?_)
  · refine r_aload0 (pc2 := 48) dX8_begin_47 rfl ?_
    refine r_getR (pc2 := 51) dX8_begin_48 rfl fX8_15 (hK_3 hS) (hR_3_1 hS) ?_
    refine r_iload1 (pc2 := 52) dX8_begin_51 rfl ?_
    refine r_bald (z := c) (pc2 := 53) dX8_begin_52 rfl (hK_5 hS) k rfl (by omega) hc ?_
    refine r_i2l (pc2 := 54) dX8_begin_53 rfl ⟨by omega, by omega⟩ ?_
    refine r_last (pc2 := 55) dX8_begin_54 rfl (hK_8 hS) (by decide) n rfl (by omega) ?_
    refine r_aload0 (pc2 := 56) dX8_begin_55 rfl ?_
    refine r_dup (pc2 := 57) dX8_begin_56 rfl rfl ?_
    refine r_getI (z := ((n : Nat) : Int)) (pc2 := 60) dX8_begin_57 rfl (Or.inl fX8_44) (hK_3 hS) hn ?_
    refine r_iconst (pc2 := 61) dX8_begin_60 rfl ?_
    refine r_iadd (c := ((n + 1 : Nat) : Int)) (pc2 := 62) dX8_begin_61 rfl (by omega) ?_
    refine r_putI (z := ((n + 1 : Nat) : Int)) (pc2 := 65) dX8_begin_62 rfl fX8_44 (w8_6 _) (hK_3 hS) (by decide) ?_
    refine r_ret dX8_begin_65 rfl ?_
    refine ⟨rfl, (((fr.rf.I (by decide)).I (by decide)).J (by decide)).I (by decide), rfl, rfl, ?_, rfl⟩
    rw [if_neg b_31]; rfl
  · refine r_aload0 (pc2 := 35) dX8_begin_34 rfl ?_
    refine r_getR (pc2 := 38) dX8_begin_35 rfl fX8_15 (hK_3 hS) (hR_3_1 hS) ?_
    refine r_iload1 (pc2 := 39) dX8_begin_38 rfl ?_
    refine r_bald (z := c) (pc2 := 40) dX8_begin_39 rfl (hK_5 hS) k rfl (by omega) hc ?_
    refine r_bipush (pc2 := 42) dX8_begin_40 rfl (by decide) (by decide) ?_
    refine r_isub (c := (c - 48)) (pc2 := 43) dX8_begin_42 rfl rfl ?_
    refine r_i2l (pc2 := 44) dX8_begin_43 rfl ⟨by omega, by omega⟩ ?_
    refine r_goto (tgt := 54) dX8_begin_44 (by decide) ?_
    refine r_last (pc2 := 55) dX8_begin_54 rfl (hK_8 hS) (by decide) n rfl (by omega) ?_
    refine r_aload0 (pc2 := 56) dX8_begin_55 rfl ?_
    refine r_dup (pc2 := 57) dX8_begin_56 rfl rfl ?_
    refine r_getI (z := ((n : Nat) : Int)) (pc2 := 60) dX8_begin_57 rfl (Or.inl fX8_44) (hK_3 hS) hn ?_
    refine r_iconst (pc2 := 61) dX8_begin_60 rfl ?_
    refine r_iadd (c := ((n + 1 : Nat) : Int)) (pc2 := 62) dX8_begin_61 rfl (by omega) ?_
    refine r_putI (z := ((n + 1 : Nat) : Int)) (pc2 := 65) dX8_begin_62 rfl fX8_44 (w8_6 _) (hK_3 hS) (by decide) ?_
    refine r_ret dX8_begin_65 rfl ?_
    refine ⟨rfl, (((fr.rf.I (by decide)).I (by decide)).J (by decide)).I (by decide), rfl, rfl, ?_, rfl⟩
    rw [if_pos (by omega)]; rfl
set_option maxHeartbeats 4000000 in
theorem c_X8_lengthen {d : Nat} {M : pM} {i k a : Nat} {z c : Int} {v0 : Int64} (hS : sOk M.1) (hk : k < 1000) (hi : i ≤ 1000) (ha : M.2.1 7 i = ((a : Nat) : Int)) (hak : a ≤ k) (hc : M.2.1 5 k = c) (hcr : 0 ≤ c ∧ c ≤ 126) (hz : z = 18 ∨ z = 19) (hv : M.2.2 8 i = v0) : Ct (d + 1) 0 0 yX8_lengthen [.ref 3, .int (iI ((i : Nat) : Int)), .int (iI ((k : Nat) : Int)), .int (iI z)] M (fun v M2 => v = none ∧ fr [6, 8] M M2 ∧ M2.2.2 8 = va_up (M.2.2 8) i (if z = 18 then ((v0 <<< (Int32.toInt64 (iI 8) &&& 63)) ||| (jL c)) else (10 : Int64) * v0 + (jL c) - 48) ∧ M2.2.1 6 = (if (z = 18 ∧ k + 1 - a ≤ 8) ∨ (z = 19 ∧ k + 1 - a ≤ 3) then M.2.1 6 else va_up (M.2.1 6) i 20)) := by
  refine ct_in (d := d) kX8_lengthen rfl (by decide) (Nat.le_of_ble_eq_true rfl) (by decide) ?_
  show Go (Ct d) _ yX8_lengthen cX8_lengthen none 0 0 0 [some (.ref 3), some (.int (iI ((i : Nat) : Int))), some (.int (iI ((k : Nat) : Int))), some (.int (iI z)), none] [] M
  refine r_iload2 (pc2 := 1) dX8_lengthen_0 rfl ?_
  refine r_aload0 (pc2 := 2) dX8_lengthen_1 rfl ?_
  refine r_getR (pc2 := 5) dX8_lengthen_2 rfl fX8_23 (hK_3 hS) (hR_3_3 hS) ?_
  refine r_iload1 (pc2 := 6) dX8_lengthen_5 rfl ?_
  refine r_iald (z := ((a : Nat) : Int)) (pc2 := 7) dX8_lengthen_6 rfl (hK_7 hS) i rfl (by omega) ha ?_
  refine r_isub (c := (((k : Nat) : Int) - ((a : Nat) : Int))) (pc2 := 8) dX8_lengthen_7 rfl rfl ?_
  refine r_iconst (pc2 := 9) dX8_lengthen_8 rfl ?_
  refine r_iadd (c := ((((k : Nat) : Int) - ((a : Nat) : Int)) + 1)) (pc2 := 10) dX8_lengthen_9 rfl rfl ?_
  refine r_istore4 (pc2 := 12) dX8_lengthen_10 rfl rfl ?_
  refine r_iload3 (pc2 := 13) dX8_lengthen_12 rfl ?_
  refine r_bipush (pc2 := 15) dX8_lengthen_13 rfl (by decide) (by decide) ?_
  refine r_icne (tgt := 44) (pc2 := 18) dX8_lengthen_15 rfl (by decide) ⟨by omega, by omega⟩ ⟨by omega, by omega⟩ (fun b_15 => ?_) (fun b_15 => ?_)
  · refine r_aload0 (pc2 := 45) dX8_lengthen_44 rfl ?_
    refine r_getR (pc2 := 48) dX8_lengthen_45 rfl fX8_26 (hK_3 hS) (hR_3_4 hS) ?_
    refine r_iload1 (pc2 := 49) dX8_lengthen_48 rfl ?_
    refine r_ldc2 (pc2 := 52) dX8_lengthen_49 rfl lX8_63 ?_
    refine r_aload0 (pc2 := 53) dX8_lengthen_52 rfl ?_
    refine r_getR (pc2 := 56) dX8_lengthen_53 rfl fX8_26 (hK_3 hS) (hR_3_4 hS) ?_
    refine r_iload1 (pc2 := 57) dX8_lengthen_56 rfl ?_
    refine r_lald (z := v0) (pc2 := 58) dX8_lengthen_57 rfl (hK_8 hS) i rfl (by omega) hv ?_
    refine r_lmul (pc2 := 59) dX8_lengthen_58 rfl ?_
    refine r_aload0 (pc2 := 60) dX8_lengthen_59 rfl ?_
    refine r_getR (pc2 := 63) dX8_lengthen_60 rfl fX8_15 (hK_3 hS) (hR_3_1 hS) ?_
    refine r_iload2 (pc2 := 64) dX8_lengthen_63 rfl ?_
    refine r_bald (z := c) (pc2 := 65) dX8_lengthen_64 rfl (hK_5 hS) k rfl (by omega) hc ?_
    refine r_i2l (pc2 := 66) dX8_lengthen_65 rfl ⟨by omega, by omega⟩ ?_
    refine r_ladd (pc2 := 67) dX8_lengthen_66 rfl ?_
    refine r_ldc2 (pc2 := 70) dX8_lengthen_67 rfl lX8_65 ?_
    refine r_lsub (pc2 := 71) dX8_lengthen_70 rfl ?_
    refine r_last (pc2 := 72) dX8_lengthen_71 rfl (hK_8 hS) (by decide) i rfl (by omega) ?_
    refine r_iload4 (pc2 := 74) dX8_lengthen_72 rfl ?_
    refine r_iload3 (pc2 := 75) dX8_lengthen_74 rfl ?_
    refine r_bipush (pc2 := 77) dX8_lengthen_75 rfl (by decide) (by decide) ?_
    refine r_icne (tgt := 85) (pc2 := 80) dX8_lengthen_77 rfl (by decide) ⟨by omega, by omega⟩ ⟨by omega, by omega⟩ (fun b_77 => ?_) (fun b_77 => ?_)
    · refine r_iconst (pc2 := 86) dX8_lengthen_85 rfl ?_
      refine r_icle (tgt := 97) (pc2 := 89) dX8_lengthen_86 rfl (by decide) ⟨by omega, by omega⟩ ⟨by omega, by omega⟩ (fun b_86 => ?_) (fun b_86 => ?_)
      · refine r_ret dX8_lengthen_97 rfl ?_
        refine ⟨rfl, fr.rf.J (by decide), ?_, ?_⟩
        · rw [if_neg (by omega)]; rfl
        · rw [if_pos (by omega)]; rfl
      · refine r_aload0 (pc2 := 90) dX8_lengthen_89 rfl ?_
        refine r_getR (pc2 := 93) dX8_lengthen_90 rfl fX8_19 (hK_3 hS) (hR_3_2 hS) ?_
        refine r_iload1 (pc2 := 94) dX8_lengthen_93 rfl ?_
        refine r_bipush (pc2 := 96) dX8_lengthen_94 rfl (by decide) (by decide) ?_
        refine r_iast (z := 20) (pc2 := 97) dX8_lengthen_96 rfl (hK_6 hS) (by decide) i rfl (by omega) ?_
        refine r_ret dX8_lengthen_97 rfl ?_
        refine ⟨rfl, (fr.rf.J (by decide)).I (by decide), ?_, ?_⟩
        · rw [if_neg (by omega)]; rfl
        · rw [if_neg (by omega)]; rfl
    · refine r_bipush (pc2 := 82) dX8_lengthen_80 rfl (by decide) (by decide) ?_
      refine r_goto (tgt := 86) dX8_lengthen_82 (by decide) ?_
      refine r_icle (tgt := 97) (pc2 := 89) dX8_lengthen_86 rfl (by decide) ⟨by omega, by omega⟩ ⟨by omega, by omega⟩ (fun b_86 => ?_) (fun b_86 => ?_)
      · refine r_ret dX8_lengthen_97 rfl ?_
        refine ⟨rfl, fr.rf.J (by decide), ?_, ?_⟩
        · rw [if_neg (by omega)]; rfl
        · rw [if_pos (by omega)]; rfl
      · refine r_aload0 (pc2 := 90) dX8_lengthen_89 rfl ?_
        refine r_getR (pc2 := 93) dX8_lengthen_90 rfl fX8_19 (hK_3 hS) (hR_3_2 hS) ?_
        refine r_iload1 (pc2 := 94) dX8_lengthen_93 rfl ?_
        refine r_bipush (pc2 := 96) dX8_lengthen_94 rfl (by decide) (by decide) ?_
        refine r_iast (z := 20) (pc2 := 97) dX8_lengthen_96 rfl (hK_6 hS) (by decide) i rfl (by omega) ?_
        refine r_ret dX8_lengthen_97 rfl ?_
        refine ⟨rfl, (fr.rf.J (by decide)).I (by decide), ?_, ?_⟩
        · rw [if_neg (by omega)]; rfl
        · rw [if_neg (by omega)]; rfl
  · refine r_aload0 (pc2 := 19) dX8_lengthen_18 rfl ?_
    refine r_getR (pc2 := 22) dX8_lengthen_19 rfl fX8_26 (hK_3 hS) (hR_3_4 hS) ?_
    refine r_iload1 (pc2 := 23) dX8_lengthen_22 rfl ?_
    refine r_aload0 (pc2 := 24) dX8_lengthen_23 rfl ?_
    refine r_getR (pc2 := 27) dX8_lengthen_24 rfl fX8_26 (hK_3 hS) (hR_3_4 hS) ?_
    refine r_iload1 (pc2 := 28) dX8_lengthen_27 rfl ?_
    refine r_lald (z := v0) (pc2 := 29) dX8_lengthen_28 rfl (hK_8 hS) i rfl (by omega) hv ?_
    refine r_bipush (pc2 := 31) dX8_lengthen_29 rfl (by decide) (by decide) ?_
    refine r_lshl (pc2 := 32) dX8_lengthen_31 rfl ?_
    refine r_aload0 (pc2 := 33) dX8_lengthen_32 rfl ?_
    refine r_getR (pc2 := 36) dX8_lengthen_33 rfl fX8_15 (hK_3 hS) (hR_3_1 hS) ?_
    refine r_iload2 (pc2 := 37) dX8_lengthen_36 rfl ?_
    refine r_bald (z := c) (pc2 := 38) dX8_lengthen_37 rfl (hK_5 hS) k rfl (by omega) hc ?_
    refine r_i2l (pc2 := 39) dX8_lengthen_38 rfl ⟨by omega, by omega⟩ ?_
    refine r_lor (pc2 := 40) dX8_lengthen_39 rfl ?_
    refine r_last (pc2 := 41) dX8_lengthen_40 rfl (hK_8 hS) (by decide) i rfl (by omega) ?_
    refine r_goto (tgt := 72) dX8_lengthen_41 (by decide) ?_
    refine r_iload4 (pc2 := 74) dX8_lengthen_72 rfl ?_
    refine r_iload3 (pc2 := 75) dX8_lengthen_74 rfl ?_
    refine r_bipush (pc2 := 77) dX8_lengthen_75 rfl (by decide) (by decide) ?_
    refine r_icne (tgt := 85) (pc2 := 80) dX8_lengthen_77 rfl (by decide) ⟨by omega, by omega⟩ ⟨by omega, by omega⟩ (fun b_77 => ?_) (fun b_77 => ?_)
    · refine r_iconst (pc2 := 86) dX8_lengthen_85 rfl ?_
      refine r_icle (tgt := 97) (pc2 := 89) dX8_lengthen_86 rfl (by decide) ⟨by omega, by omega⟩ ⟨by omega, by omega⟩ (fun b_86 => ?_) (fun b_86 => ?_)
      · refine r_ret dX8_lengthen_97 rfl ?_
        refine ⟨rfl, fr.rf.J (by decide), ?_, ?_⟩
        · rw [if_pos (by omega)]; rfl
        · rw [if_pos (by omega)]; rfl
      · refine r_aload0 (pc2 := 90) dX8_lengthen_89 rfl ?_
        refine r_getR (pc2 := 93) dX8_lengthen_90 rfl fX8_19 (hK_3 hS) (hR_3_2 hS) ?_
        refine r_iload1 (pc2 := 94) dX8_lengthen_93 rfl ?_
        refine r_bipush (pc2 := 96) dX8_lengthen_94 rfl (by decide) (by decide) ?_
        refine r_iast (z := 20) (pc2 := 97) dX8_lengthen_96 rfl (hK_6 hS) (by decide) i rfl (by omega) ?_
        refine r_ret dX8_lengthen_97 rfl ?_
        refine ⟨rfl, (fr.rf.J (by decide)).I (by decide), ?_, ?_⟩
        · rw [if_pos (by omega)]; rfl
        · rw [if_neg (by omega)]; rfl
    · refine r_bipush (pc2 := 82) dX8_lengthen_80 rfl (by decide) (by decide) ?_
      refine r_goto (tgt := 86) dX8_lengthen_82 (by decide) ?_
      refine r_icle (tgt := 97) (pc2 := 89) dX8_lengthen_86 rfl (by decide) ⟨by omega, by omega⟩ ⟨by omega, by omega⟩ (fun b_86 => ?_) (fun b_86 => ?_)
      · refine r_ret dX8_lengthen_97 rfl ?_
        refine ⟨rfl, fr.rf.J (by decide), ?_, ?_⟩
        · rw [if_pos (by omega)]; rfl
        · rw [if_pos (by omega)]; rfl
      · refine r_aload0 (pc2 := 90) dX8_lengthen_89 rfl ?_
        refine r_getR (pc2 := 93) dX8_lengthen_90 rfl fX8_19 (hK_3 hS) (hR_3_2 hS) ?_
        refine r_iload1 (pc2 := 94) dX8_lengthen_93 rfl ?_
        refine r_bipush (pc2 := 96) dX8_lengthen_94 rfl (by decide) (by decide) ?_
        refine r_iast (z := 20) (pc2 := 97) dX8_lengthen_96 rfl (hK_6 hS) (by decide) i rfl (by omega) ?_
        refine r_ret dX8_lengthen_97 rfl ?_
        refine ⟨rfl, (fr.rf.J (by decide)).I (by decide), ?_, ?_⟩
        · rw [if_pos (by omega)]; rfl
        · rw [if_neg (by omega)]; rfl
/-- the words as the class has them -/
def cWd (M : pM) : Prop := ∀ k, 1 ≤ k → k ≤ 17 → M.2.2 4 k = lN (kwI k)
set_option maxHeartbeats 4000000 in
theorem lp_X8_wordOf {d : Nat} {Q : pQ} {x : Nat} {M : pM} (hS : sOk M.1) (hW : cWd M) (hx : vId x) (hQ : Q (some (.int (iI (wKd x)))) M) :
    ∀ (m k : Nat), k + m = 18 → 1 ≤ k → wOf m k x = wKd x → Go (Ct d) Q yX8_wordOf cX8_wordOf (some .int) 0 0 2 [some (.ref 3), some (.long (lN x)), none, some (.int (iI ((k : Nat) : Int)))] [] M := by
  intro m
  induction m with
  | zero =>
    intro k hm h1 hw
    obtain rfl : k = 18 := by omega
    rw [wOf] at hw
    refine r_iload3 (pc2 := 3) dX8_wordOf_2 rfl ?_
    refine r_bipush (pc2 := 5) dX8_wordOf_3 rfl (by decide) (by decide) ?_
    refine r_icgt (tgt := 27) (pc2 := 8) dX8_wordOf_5 rfl (by decide) ⟨by omega, by omega⟩ ⟨by omega, by omega⟩ (fun _ => ?_) (fun h9 => absurd h9 (by decide))
    refine r_bipush (pc2 := 29) dX8_wordOf_27 rfl (by decide) (by decide) ?_
    refine r_ireti dX8_wordOf_29 rfl ?_
    rw [hw]; exact hQ
  | succ m ih =>
    intro k hm h1 hw
    rw [wOf] at hw
    have hwk := hW k h1 (by omega)
    have hkey := ((kw_v k h1 (by omega)).key hx).1
    refine r_iload3 (pc2 := 3) dX8_wordOf_2 rfl ?_
    refine r_bipush (pc2 := 5) dX8_wordOf_3 rfl (by decide) (by decide) ?_
    refine r_icgt (tgt := 27) (pc2 := 8) dX8_wordOf_5 rfl (by decide) ⟨by omega, by omega⟩ ⟨by omega, by omega⟩ (fun b_5 => ?_) (fun b_5 => ?_)
    · refine r_bipush (pc2 := 29) dX8_wordOf_27 rfl (by decide) (by decide) ?_
      refine r_ireti dX8_wordOf_29 rfl ?_
      exact absurd b_5 (by omega)
    · refine r_aload0 (pc2 := 9) dX8_wordOf_8 rfl ?_
      refine r_getR (pc2 := 12) dX8_wordOf_9 rfl fX8_9 (hK_3 hS) (hR_3_0 hS) ?_
      refine r_iload3 (pc2 := 13) dX8_wordOf_12 rfl ?_
      refine r_lald (z := (lN (kwI k))) (pc2 := 14) dX8_wordOf_13 rfl (hK_4 hS) k rfl (by omega) hwk ?_
      refine r_lload1 (pc2 := 15) dX8_wordOf_14 rfl ?_
      refine r_lcmp (pc2 := 16) dX8_wordOf_15 rfl ?_
      have lr15 := lcm_r ((lN (kwI k))) ((lN x))
      rw [lg_iI]
      refine r_ifne (tgt := 21) (pc2 := 19) dX8_wordOf_16 rfl (by decide) ⟨by omega, by omega⟩ (fun b_16 => ?_) (fun b_16 => ?_)
      · refine r_iinc3 (z := ((k + 1 : Nat) : Int)) (pc2 := 24) dX8_wordOf_21 rfl (by omega) rfl ?_
        refine r_goto (tgt := 2) dX8_wordOf_24 (by decide) ?_
        rw [if_neg (fun q => b_16 (lr15.2.2.mpr (hkey.mpr q)))] at hw
        exact ih (k + 1) (by omega) (by omega) hw
      · refine r_iload3 (pc2 := 20) dX8_wordOf_19 rfl ?_
        refine r_ireti dX8_wordOf_20 rfl ?_
        rw [if_pos (hkey.mp (lr15.2.2.mp (by omega)))] at hw
        rw [hw]; exact hQ
set_option maxHeartbeats 4000000 in
theorem c_X8_wordOf {d : Nat} {M : pM} {x : Nat} (hS : sOk M.1) (hW : cWd M) (hx : vId x) : Ct (d + 1) 0 0 yX8_wordOf [.ref 3, .long (lN x)] M (fun v M2 => v = some (.int (iI (wKd x))) ∧ M2 = M) := by
  refine ct_in (d := d) kX8_wordOf rfl (by decide) (Nat.le_of_ble_eq_true rfl) (by decide) ?_
  show Go (Ct d) _ yX8_wordOf cX8_wordOf (some .int) 0 0 0 [some (.ref 3), some (.long (lN x)), none, none] [] M
  refine r_iconst (pc2 := 1) dX8_wordOf_0 rfl ?_
  refine r_istore3 (pc2 := 2) dX8_wordOf_1 rfl rfl ?_
  exact lp_X8_wordOf hS hW hx ⟨rfl, rfl⟩ 17 1 (by omega) (by omega) rfl
/-- one sign more -/
theorem e10_1 {s : Nat → Int} {a : Nat} : e10 s a 1 = (s a).toNat - 48 := by rw [e10, e10]; simp
theorem e256_1 {s : Nat → Int} {a : Nat} : e256 s a 1 = (s a).toNat := by rw [e256, e256]; simp
theorem CTk_old {M M2 : pM} {s : Nat → Int} {n k : Nat} {la : Int} {S E : Nat → Nat} {v0 : Int64} (hI : tkI s k (n, la, S, E)) (hT : CTk M s (n, la, S, E)) (hz : srt (s k) = la ∧ (srt (s k) = 18 ∨ srt (s k) = 19)) (hf : fr [6, 8] M M2) (hv : M.2.2 8 (n - 1) = v0) (e8 : M2.2.2 8 = va_up (M.2.2 8) (n - 1) (if srt (s k) = 18 then ((v0 <<< (Int32.toInt64 (iI 8) &&& 63)) ||| (jL (s k))) else (10 : Int64) * v0 + (jL (s k)) - 48)) (e6 : M2.2.1 6 = (if (srt (s k) = 18 ∧ k + 1 - S (n - 1) ≤ 8) ∨ (srt (s k) = 19 ∧ k + 1 - S (n - 1) ≤ 3) then M.2.1 6 else va_up (M.2.1 6) (n - 1) 20)) : CTk M2 s (tk1 s k (n, la, S, E)) := by
  unfold tk1
  rw [if_pos hz]
  obtain ⟨g1, g2, g3⟩ := hI.2.2.2.1 (by simp only; omega)
  simp only at g1 g2 g3
  have hr := srt_r (c := s k)
  refine ⟨by rw [hf.i (by decide)]; exact hT.1, fun i hi => ?_⟩
  have hi : i < n := hi
  show cTk M2 s (S i) (va_up E (n - 1) (k + 1) i) i
  have h0 := hT.2 i hi
  simp only at h0
  by_cases e : i = n - 1
  · subst e
    rw [up_at]
    have hlt := (hI.2.1 (n - 1) (by simp only; omega))
    unfold tkT at hlt
    simp only at hlt
    obtain ⟨h1, h2, h3, h4⟩ := h0
    have em : k + 1 - S (n - 1) = (E (n - 1) - S (n - 1)) + 1 := by omega
    have ek : S (n - 1) + (E (n - 1) - S (n - 1)) = k := by omega
    refine ⟨by rw [hf.i (by decide)]; exact h1, ?_, fun q1 q2 => ?_, fun q1 q2 => ?_⟩
    · rw [e6]
      unfold k0d at h2 ⊢
      split
      · rename_i c
        rw [h2]
        rcases c with c | c
        · rw [if_pos (by omega), if_pos (by omega), if_pos (by omega), if_pos (by omega)]
        · rw [if_neg (by omega), if_pos (by omega), if_pos (by omega), if_neg (by omega), if_pos (by omega), if_pos (by omega)]
      · rename_i c
        rw [up_at]
        rcases hz.2 with c2 | c2
        · rw [if_pos (by omega), if_neg (by omega)]
        · rw [if_neg (by omega), if_pos (by omega), if_neg (by omega)]
    · rw [e8, up_at, if_pos (by omega), ← hv, h3 q1 (by omega)]
      have hl := e256_lt (s := s) (a := S (n - 1)) (E (n - 1) - S (n - 1)) (fun j hj => srt_r.1.mp (by rw [hlt.2.2.1 _ (by omega) (by omega)]; exact q1))
      have hp : 256 ^ (E (n - 1) - S (n - 1)) ≤ 256 ^ 7 := Nat.pow_le_pow_right (by decide) (by omega)
      have hp7 : (256 : Nat) ^ 7 * 256 = 2 ^ 64 := by decide
      rw [wl_step (by omega) (by omega), em, e256, ek]
    · rw [e8, up_at, if_neg (by omega), ← hv, h4 q1 (by omega), nm_step (by omega), em, e10, ek]
  · rw [up_ne e]
    refine h0.of (by rw [hf.i (by decide)]) ?_ (by rw [e8, up_ne e])
    rw [e6]
    split
    · rfl
    · rw [up_ne e]
theorem CTk_new {M M2 : pM} {s : Nat → Int} {n k : Nat} {la : Int} {S E : Nat → Nat} (hT : CTk M s (n, la, S, E)) (hz : ¬ (srt (s k) = la ∧ (srt (s k) = 18 ∨ srt (s k) = 19))) (hz2 : ¬ srt (s k) = 21) (hs : 0 ≤ s k) (e6 : M2.2.1 6 = va_up (M.2.1 6) n (srt (s k))) (e7 : M2.2.1 7 = va_up (M.2.1 7) n ((k : Nat) : Int)) (e8 : M2.2.2 8 = va_up (M.2.2 8) n (jL (if srt (s k) = 19 then s k - 48 else s k))) (e3 : M2.2.1 3 = va_up (M.2.1 3) 6 (((n + 1 : Nat)) : Int)) : CTk M2 s (tk1 s k (n, la, S, E)) := by
  unfold tk1
  rw [if_neg hz, if_neg hz2]
  refine ⟨by rw [e3, up_at], fun i hi => ?_⟩
  have hi : i < n + 1 := hi
  show cTk M2 s (va_up S n k i) (va_up E n (k + 1) i) i
  by_cases e : i = n
  · subst e
    rw [up_at, up_at]
    have hr := srt_r (c := s k)
    refine ⟨by rw [e7, up_at], ?_, fun q1 q2 => ?_, fun q1 q2 => ?_⟩
    · rw [e6, up_at]
      unfold k0d
      (repeat' split) <;> omega
    · rw [e8, up_at, if_neg (by omega), show k + 1 - k = 1 by omega, e256_1, jL_lN hs]
    · rw [e8, up_at, if_pos q1, show k + 1 - k = 1 by omega, e10_1, jL_lN (by omega)]
      congr 1
      omega
  · rw [up_ne e, up_ne e]
    exact (hT.2 i (by omega)).of (by rw [e7, up_ne e]) (by rw [e6, up_ne e]) (by rw [e8, up_ne e])
set_option maxHeartbeats 4000000 in
theorem lp1_X8_cut {d : Nat} {Q : pQ} {L : Nat} {s : Nat → Int} (M0 : pM) (hS0 : sOk M0.1) (hL : L ≤ 1000) (hl : M0.2.1 3 5 = (L : Int)) (hs : ∀ j, j < L → M0.2.1 5 j = s j ∧ 0 ≤ s j ∧ s j ≤ 126)
    (hQ : ∀ M2 (l3 : Option Value) (la : Int), fr [3, 6, 7, 8] M0 M2 → (∀ j, j ≠ 6 → M2.2.1 3 j = M0.2.1 3 j) → CTk M2 s (tk s L) → Go (Ct (d + 1)) Q yX8_cut cX8_cut none 0 0 87 [some (.ref 3), some (.int (iI la)), some (.int (iI ((L : Nat) : Int))), l3] [] M2) :
    ∀ (m k : Nat) (M : pM) (l3 : Option Value), k + m = L → fr [3, 6, 7, 8] M0 M → (∀ j, j ≠ 6 → M.2.1 3 j = M0.2.1 3 j) → CTk M s (tk s k) →
      Go (Ct (d + 1)) Q yX8_cut cX8_cut none 0 0 10 [some (.ref 3), some (.int (iI (tk s k).2.1)), some (.int (iI ((k : Nat) : Int))), l3] [] M := by
  intro m
  induction m with
  | zero =>
    intro k M l3 hm hfr h3 hT
    obtain rfl : k = L := by omega
    have hS := hfr.ok hS0
    have hlm : M.2.1 3 5 = (k : Int) := (h3 5 (by decide)).trans hl
    refine r_iload2 (pc2 := 11) dX8_cut_10 rfl ?_
    refine r_aload0 (pc2 := 12) dX8_cut_11 rfl ?_
    refine r_getI (z := ((k : Nat) : Int)) (pc2 := 15) dX8_cut_12 rfl (Or.inl fX8_41) (hK_3 hS) hlm ?_
    refine r_icge (tgt := 87) (pc2 := 18) dX8_cut_15 rfl (by decide) ⟨by omega, by omega⟩ ⟨by omega, by omega⟩ (fun b_15 => ?_) (fun b_15 => ?_)
    · exact hQ M _ _ hfr h3 hT
    · exact absurd b_15 (by omega)
  | succ m ih =>
    intro k M l3 hm hfr h3 hT
    have hS := hfr.ok hS0
    have hlm : M.2.1 3 5 = (L : Int) := (h3 5 (by decide)).trans hl
    have hsk := hs k (by omega)
    have hck : M.2.1 5 k = s k := by rw [hfr.i (by decide)]; exact hsk.1
    have hI := tk_I s k
    have hI2 := tk_lr (s := s) k
    have hr := srt_r (c := s k)
    have ih2 := ih (k + 1)
    rw [show tk s (k + 1) = tk1 s k (tk s k) from rfl] at ih2
    generalize tk s k = t at hT hI hI2 ih2 ⊢
    obtain ⟨n, la, S, E⟩ := t
    have hn : M.2.1 3 6 = (n : Int) := hT.1
    have hn2 : n ≤ k := hI.1
    have hla : la = 18 ∨ la = 19 → 0 < n := fun q => (hI.2.2.2.1 q).1
    have hlr : 18 ≤ la ∧ la ≤ 59 := hI2
    show Go (Ct (d + 1)) Q yX8_cut cX8_cut none 0 0 10 [some (.ref 3), some (.int (iI la)), some (.int (iI ((k : Nat) : Int))), l3] [] M
    refine r_iload2 (pc2 := 11) dX8_cut_10 rfl ?_
    refine r_aload0 (pc2 := 12) dX8_cut_11 rfl ?_
    refine r_getI (z := ((L : Nat) : Int)) (pc2 := 15) dX8_cut_12 rfl (Or.inl fX8_41) (hK_3 hS) hlm ?_
    refine r_icge (tgt := 87) (pc2 := 18) dX8_cut_15 rfl (by decide) ⟨by omega, by omega⟩ ⟨by omega, by omega⟩ (fun b_15 => ?_) (fun b_15 => ?_)
    · exact absurd b_15 (by omega)
    · refine r_aload0 (pc2 := 19) dX8_cut_18 rfl ?_
      refine r_getR (pc2 := 22) dX8_cut_19 rfl fX8_15 (hK_3 hS) (hR_3_1 hS) ?_
      refine r_iload2 (pc2 := 23) dX8_cut_22 rfl ?_
      refine r_bald (z := (s k)) (pc2 := 24) dX8_cut_23 rfl (hK_5 hS) k rfl (by omega) hck ?_
      refine r_cs1 (pc2 := 27) dX8_cut_24 rfl sX8_47 (by decide) (c_X8_sortOf (d := d) (c := s k) ⟨by omega, by omega⟩) ?_
      rintro _ M9 ⟨rfl, h9⟩
      rw [h9]
      rw [show (if 97 ≤ s k ∧ s k ≤ 122 then (18 : Int) else if 48 ≤ s k ∧ s k ≤ 57 then 19 else if s k = 32 ∨ s k = 10 then 21 else if s k = 40 ∨ s k = 41 ∨ s k = 45 ∨ s k = 59 then s k else 20) = srt (s k) from rfl]
      show Go (Ct (d + 1)) _ yX8_cut cX8_cut none 0 0 27 [some (.ref 3), some (.int (iI la)), some (.int (iI ((k : Nat) : Int))), l3] [.int (iI (srt (s k)))] M
      refine r_istore3 (pc2 := 28) dX8_cut_27 rfl rfl ?_
      refine r_iload3 (pc2 := 29) dX8_cut_28 rfl ?_
      refine r_iload1 (pc2 := 30) dX8_cut_29 rfl ?_
      refine r_icne (tgt := 67) (pc2 := 33) dX8_cut_30 rfl (by decide) ⟨by omega, by omega⟩ ⟨by omega, by omega⟩ (fun b_30 => ?_) (fun b_30 => ?_)
      · have hz : ¬ (srt (s k) = la ∧ (srt (s k) = 18 ∨ srt (s k) = 19)) := by omega
        refine r_iload3 (pc2 := 68) dX8_cut_67 rfl ?_
        refine r_bipush (pc2 := 70) dX8_cut_68 rfl (by decide) (by decide) ?_
        refine r_iceq (tgt := 79) (pc2 := 73) dX8_cut_70 rfl (by decide) ⟨by omega, by omega⟩ ⟨by omega, by omega⟩ (fun b_70 => ?_) (fun b_70 => ?_)
        · refine r_iload3 (pc2 := 80) dX8_cut_79 rfl ?_
          refine r_istore1 (pc2 := 81) dX8_cut_80 rfl rfl ?_
          refine r_iinc2 (z := ((k + 1 : Nat) : Int)) (pc2 := 84) dX8_cut_81 rfl (by omega) rfl ?_
          refine r_goto (tgt := 10) dX8_cut_84 (by decide) ?_
          have h9 := ih2 M (some (.int (iI (srt (s k))))) (by omega) hfr h3 (by rw [tk1, if_neg hz, if_pos (by omega)]; exact hT)
          rw [show (tk1 s k (n, la, S, E)).2.1 = srt (s k) from by rw [tk1, if_neg hz, if_pos (by omega)]; simp only; omega] at h9
          exact h9
        · refine r_aload0 (pc2 := 74) dX8_cut_73 rfl ?_
          refine r_iload2 (pc2 := 75) dX8_cut_74 rfl ?_
          refine r_iload3 (pc2 := 76) dX8_cut_75 rfl ?_
          refine r_cv2 (pc2 := 79) dX8_cut_76 rfl vX8_55 (hK_3 hS) (by decide) (c_X8_begin (d := d) (k := k) (n := n) (z := srt (s k)) (c := s k) hS (by omega) hn (by omega) hck (by omega) ⟨by omega, by omega⟩) ?_
          rintro _ M8 ⟨rfl, f8, e6, e7, e8, e3⟩
          have hf8 : fr [3, 6, 7, 8] M0 M8 := hfr.tr f8
          show Go (Ct (d + 1)) _ yX8_cut cX8_cut none 0 0 79 [some (.ref 3), some (.int (iI la)), some (.int (iI ((k : Nat) : Int))), some (.int (iI (srt (s k))))] [] M8
          refine r_iload3 (pc2 := 80) dX8_cut_79 rfl ?_
          refine r_istore1 (pc2 := 81) dX8_cut_80 rfl rfl ?_
          refine r_iinc2 (z := ((k + 1 : Nat) : Int)) (pc2 := 84) dX8_cut_81 rfl (by omega) rfl ?_
          refine r_goto (tgt := 10) dX8_cut_84 (by decide) ?_
          have h9 := ih2 M8 (some (.int (iI (srt (s k))))) (by omega) hf8 (fun j hj => by rw [e3, up_ne hj]; exact h3 j hj) (CTk_new hT hz (by omega) (by omega) e6 e7 e8 e3)
          rw [show (tk1 s k (n, la, S, E)).2.1 = srt (s k) from by rw [tk1, if_neg hz, if_neg (by omega)]] at h9
          exact h9
      · refine r_iload3 (pc2 := 34) dX8_cut_33 rfl ?_
        refine r_bipush (pc2 := 36) dX8_cut_34 rfl (by decide) (by decide) ?_
        refine r_iceq (tgt := 45) (pc2 := 39) dX8_cut_36 rfl (by decide) ⟨by omega, by omega⟩ ⟨by omega, by omega⟩ (fun b_36 => ?_) (fun b_36 => ?_)
        · refine r_aload0 (pc2 := 46) dX8_cut_45 rfl ?_
          refine r_getI (z := ((n : Nat) : Int)) (pc2 := 49) dX8_cut_46 rfl (Or.inl fX8_44) (hK_3 hS) hn ?_
          refine r_ifle (tgt := 67) (pc2 := 52) dX8_cut_49 rfl (by decide) ⟨by omega, by omega⟩ (fun b_49 => ?_) (fun b_49 => ?_)
          · exact absurd (hla (by omega)) (by omega)
          · have hz : srt (s k) = la ∧ (srt (s k) = 18 ∨ srt (s k) = 19) := ⟨by omega, by omega⟩
            have hTa := hT.2 (n - 1) (by simp only; omega)
            simp only at hTa
            have hTb := (hI.2.1 (n - 1) (by simp only; omega))
            unfold tkT at hTb
            simp only at hTb
            refine r_aload0 (pc2 := 53) dX8_cut_52 rfl ?_
            refine r_aload0 (pc2 := 54) dX8_cut_53 rfl ?_
            refine r_getI (z := ((n : Nat) : Int)) (pc2 := 57) dX8_cut_54 rfl (Or.inl fX8_44) (hK_3 hS) hn ?_
            refine r_iconst (pc2 := 58) dX8_cut_57 rfl ?_
            refine r_isub (c := ((n - 1 : Nat) : Int)) (pc2 := 59) dX8_cut_58 rfl (by omega) ?_
            refine r_iload2 (pc2 := 60) dX8_cut_59 rfl ?_
            refine r_iload3 (pc2 := 61) dX8_cut_60 rfl ?_
            refine r_cv3 (pc2 := 64) dX8_cut_61 rfl vX8_51 (hK_3 hS) (by decide) (c_X8_lengthen (d := d) (i := n - 1) (k := k) (a := S (n - 1)) (z := srt (s k)) (c := s k) (v0 := M.2.2 8 (n - 1)) hS (by omega) (by omega) hTa.1 (by omega) hck (by omega) hz.2 rfl) ?_
            rintro _ M8 ⟨rfl, f8, e8, e6⟩
            have hf8 : fr [3, 6, 7, 8] M0 M8 := hfr.tr (f8.mono (by decide))
            show Go (Ct (d + 1)) _ yX8_cut cX8_cut none 0 0 64 [some (.ref 3), some (.int (iI la)), some (.int (iI ((k : Nat) : Int))), some (.int (iI (srt (s k))))] [] M8
            refine r_goto (tgt := 79) dX8_cut_64 (by decide) ?_
            refine r_iload3 (pc2 := 80) dX8_cut_79 rfl ?_
            refine r_istore1 (pc2 := 81) dX8_cut_80 rfl rfl ?_
            refine r_iinc2 (z := ((k + 1 : Nat) : Int)) (pc2 := 84) dX8_cut_81 rfl (by omega) rfl ?_
            refine r_goto (tgt := 10) dX8_cut_84 (by decide) ?_
            have h9 := ih2 M8 (some (.int (iI (srt (s k))))) (by omega) hf8 (fun j hj => by rw [f8.i (by decide)]; exact h3 j hj) (CTk_old hI hT hz f8 rfl e8 e6)
            rw [show (tk1 s k (n, la, S, E)).2.1 = srt (s k) from by rw [tk1, if_pos hz]] at h9
            exact h9
        · refine r_iload3 (pc2 := 40) dX8_cut_39 rfl ?_
          refine r_bipush (pc2 := 42) dX8_cut_40 rfl (by decide) (by decide) ?_
          refine r_icne (tgt := 67) (pc2 := 45) dX8_cut_42 rfl (by decide) ⟨by omega, by omega⟩ ⟨by omega, by omega⟩ (fun b_42 => ?_) (fun b_42 => ?_)
          · have hz : ¬ (srt (s k) = la ∧ (srt (s k) = 18 ∨ srt (s k) = 19)) := by omega
            refine r_iload3 (pc2 := 68) dX8_cut_67 rfl ?_
            refine r_bipush (pc2 := 70) dX8_cut_68 rfl (by decide) (by decide) ?_
            refine r_iceq (tgt := 79) (pc2 := 73) dX8_cut_70 rfl (by decide) ⟨by omega, by omega⟩ ⟨by omega, by omega⟩ (fun b_70 => ?_) (fun b_70 => ?_)
            · refine r_iload3 (pc2 := 80) dX8_cut_79 rfl ?_
              refine r_istore1 (pc2 := 81) dX8_cut_80 rfl rfl ?_
              refine r_iinc2 (z := ((k + 1 : Nat) : Int)) (pc2 := 84) dX8_cut_81 rfl (by omega) rfl ?_
              refine r_goto (tgt := 10) dX8_cut_84 (by decide) ?_
              have h9 := ih2 M (some (.int (iI (srt (s k))))) (by omega) hfr h3 (by rw [tk1, if_neg hz, if_pos (by omega)]; exact hT)
              rw [show (tk1 s k (n, la, S, E)).2.1 = srt (s k) from by rw [tk1, if_neg hz, if_pos (by omega)]; simp only; omega] at h9
              exact h9
            · refine r_aload0 (pc2 := 74) dX8_cut_73 rfl ?_
              refine r_iload2 (pc2 := 75) dX8_cut_74 rfl ?_
              refine r_iload3 (pc2 := 76) dX8_cut_75 rfl ?_
              refine r_cv2 (pc2 := 79) dX8_cut_76 rfl vX8_55 (hK_3 hS) (by decide) (c_X8_begin (d := d) (k := k) (n := n) (z := srt (s k)) (c := s k) hS (by omega) hn (by omega) hck (by omega) ⟨by omega, by omega⟩) ?_
              rintro _ M8 ⟨rfl, f8, e6, e7, e8, e3⟩
              have hf8 : fr [3, 6, 7, 8] M0 M8 := hfr.tr f8
              show Go (Ct (d + 1)) _ yX8_cut cX8_cut none 0 0 79 [some (.ref 3), some (.int (iI la)), some (.int (iI ((k : Nat) : Int))), some (.int (iI (srt (s k))))] [] M8
              refine r_iload3 (pc2 := 80) dX8_cut_79 rfl ?_
              refine r_istore1 (pc2 := 81) dX8_cut_80 rfl rfl ?_
              refine r_iinc2 (z := ((k + 1 : Nat) : Int)) (pc2 := 84) dX8_cut_81 rfl (by omega) rfl ?_
              refine r_goto (tgt := 10) dX8_cut_84 (by decide) ?_
              have h9 := ih2 M8 (some (.int (iI (srt (s k))))) (by omega) hf8 (fun j hj => by rw [e3, up_ne hj]; exact h3 j hj) (CTk_new hT hz (by omega) (by omega) e6 e7 e8 e3)
              rw [show (tk1 s k (n, la, S, E)).2.1 = srt (s k) from by rw [tk1, if_neg hz, if_neg (by omega)]] at h9
              exact h9
          · refine r_aload0 (pc2 := 46) dX8_cut_45 rfl ?_
            refine r_getI (z := ((n : Nat) : Int)) (pc2 := 49) dX8_cut_46 rfl (Or.inl fX8_44) (hK_3 hS) hn ?_
            refine r_ifle (tgt := 67) (pc2 := 52) dX8_cut_49 rfl (by decide) ⟨by omega, by omega⟩ (fun b_49 => ?_) (fun b_49 => ?_)
            · exact absurd (hla (by omega)) (by omega)
            · have hz : srt (s k) = la ∧ (srt (s k) = 18 ∨ srt (s k) = 19) := ⟨by omega, by omega⟩
              have hTa := hT.2 (n - 1) (by simp only; omega)
              simp only at hTa
              have hTb := (hI.2.1 (n - 1) (by simp only; omega))
              unfold tkT at hTb
              simp only at hTb
              refine r_aload0 (pc2 := 53) dX8_cut_52 rfl ?_
              refine r_aload0 (pc2 := 54) dX8_cut_53 rfl ?_
              refine r_getI (z := ((n : Nat) : Int)) (pc2 := 57) dX8_cut_54 rfl (Or.inl fX8_44) (hK_3 hS) hn ?_
              refine r_iconst (pc2 := 58) dX8_cut_57 rfl ?_
              refine r_isub (c := ((n - 1 : Nat) : Int)) (pc2 := 59) dX8_cut_58 rfl (by omega) ?_
              refine r_iload2 (pc2 := 60) dX8_cut_59 rfl ?_
              refine r_iload3 (pc2 := 61) dX8_cut_60 rfl ?_
              refine r_cv3 (pc2 := 64) dX8_cut_61 rfl vX8_51 (hK_3 hS) (by decide) (c_X8_lengthen (d := d) (i := n - 1) (k := k) (a := S (n - 1)) (z := srt (s k)) (c := s k) (v0 := M.2.2 8 (n - 1)) hS (by omega) (by omega) hTa.1 (by omega) hck (by omega) hz.2 rfl) ?_
              rintro _ M8 ⟨rfl, f8, e8, e6⟩
              have hf8 : fr [3, 6, 7, 8] M0 M8 := hfr.tr (f8.mono (by decide))
              show Go (Ct (d + 1)) _ yX8_cut cX8_cut none 0 0 64 [some (.ref 3), some (.int (iI la)), some (.int (iI ((k : Nat) : Int))), some (.int (iI (srt (s k))))] [] M8
              refine r_goto (tgt := 79) dX8_cut_64 (by decide) ?_
              refine r_iload3 (pc2 := 80) dX8_cut_79 rfl ?_
              refine r_istore1 (pc2 := 81) dX8_cut_80 rfl rfl ?_
              refine r_iinc2 (z := ((k + 1 : Nat) : Int)) (pc2 := 84) dX8_cut_81 rfl (by omega) rfl ?_
              refine r_goto (tgt := 10) dX8_cut_84 (by decide) ?_
              have h9 := ih2 M8 (some (.int (iI (srt (s k))))) (by omega) hf8 (fun j hj => by rw [f8.i (by decide)]; exact h3 j hj) (CTk_old hI hT hz f8 rfl e8 e6)
              rw [show (tk1 s k (n, la, S, E)).2.1 = srt (s k) from by rw [tk1, if_pos hz]] at h9
              exact h9
