/-! the class's Program (9: tape 3, acts 10, ends 11, four numbers 12 to 15, names 16, nameLines 17, open 18; token 10, size 11, told 12, depth 13, fault 14) -/
def rM (M : pM) (r : rdT) : pM := pI (pI M 9 10 ((r.1 : Nat) : Int)) 9 14 r.2
def cT (M : pM) (T : tD) : Prop := CT M T.1 (kK T) (kS T) (kV T) (kI T)
theorem pI_comm {M : pM} {a k b j : Nat} {z w : Int} (h : a ≠ b ∨ k ≠ j) : pI (pI M a k z) b j w = pI (pI M b j w) a k z := by
  unfold pI
  congr 2
  funext c
  show pU (pU M.2.1 a k z) b j w c = pU (pU M.2.1 b j w) a k z c
  unfold pU
  by_cases e : a = b
  · subst e
    simp only [if_pos]
    split
    · funext i
      unfold va_up
      by_cases e1 : i = j
      · by_cases e2 : i = k
        · omega
        · simp [e1, e2] <;> omega
      · simp [e1]
    · rfl
  · by_cases e1 : c = b
    · by_cases e2 : c = a
      · omega
      · subst e1
        simp [e2] <;> omega
    · by_cases e2 : c = a
      · subst e2
        simp [e1]
      · simp [e1, e2]
theorem rM_o {M : pM} {r : rdT} {a k : Nat} {z : Int} (h : a ≠ 9 ∨ (k ≠ 10 ∧ k ≠ 14)) : pI (rM M r) a k z = rM (pI M a k z) r := by
  unfold rM
  rw [pI_comm (by omega), pI_comm (a := 9) (k := 10) (by omega)]
theorem rM_J {M : pM} {r : rdT} {a k : Nat} {z : Int64} : pJ (rM M r) a k z = rM (pJ M a k z) r := rfl
theorem rM_s {M : pM} {r : rdT} : (rM M r).1 = M.1 := rfl
theorem rM_id {M : pM} {r : rdT} (h1 : M.2.1 9 10 = ((r.1 : Nat) : Int)) (h2 : M.2.1 9 14 = r.2) : rM M r = M := by
  unfold rM
  rw [pI_self h1, pI_self h2]
theorem rM_t {M : pM} {r : rdT} : (rM M r).2.1 9 10 = ((r.1 : Nat) : Int) := rfl
theorem rM_f {M : pM} {r : rdT} : (rM M r).2.1 9 14 = r.2 := rfl
theorem rM_9 {M : pM} {r : rdT} {k : Nat} (h1 : k ≠ 10) (h2 : k ≠ 14) : (rM M r).2.1 9 k = M.2.1 9 k := by unfold rM; rw [pI_nk h2, pI_nk h1]
theorem rM_c {M : pM} {r : rdT} {a : Nat} (h : a ≠ 9) : (rM M r).2.1 a = M.2.1 a := by unfold rM; rw [pI_ne h, pI_ne h]
theorem cT.k {M : pM} {T : tD} {r : rdT} (h : cT M T) (ho : rOk T r) : M.2.1 6 r.1 = kK T r.1 := (h.2.1 r.1 ho.1).1
theorem kK_r {T : tD} (hT : tOk T) {i : Nat} (h : i ≤ T.1) : 1 ≤ kK T i ∧ kK T i ≤ 59 := by
  rcases (show i < T.1 ∨ i = T.1 by omega) with q | q
  · have := hT.2.2.2.1 i q
    omega
  · have := hT.2.1
    rw [q]
    omega

set_option maxHeartbeats 4000000 in
theorem c_X4_kindAtHand {d : Nat} {M : pM} {T : tD} {r : rdT}  (hS : sOk M.1) (hT : tOk T) (hC : cT M T) (ho : rOk T r) : Ct (d + 1) 0 0 yX4_kindAtHand [.ref 9] (rM M r) (fun v M2 => v = some (.int (iI (kK T r.1))) ∧ M2 = rM M r) := by
  refine ct_in (d := d) kX4_kindAtHand rfl (by decide) (Nat.le_of_ble_eq_true rfl) (by decide) ?_
  show Go (Ct d) _ yX4_kindAtHand cX4_kindAtHand (some .int) 0 0 0 [some (.ref 9)] [] (rM M r)
  have hT1 := hT.1
  have ho1 := ho.1
  have ho2 := ho.2.1
  have ho3 := ho.2.2
  refine r_aload0 (pc2 := 1) dX4_kindAtHand_0 rfl ?_
  refine r_getR (pc2 := 4) dX4_kindAtHand_1 rfl fX4_40 (hK_9 hS) (hR_9_0 hS) ?_
  refine r_getR (pc2 := 7) dX4_kindAtHand_4 rfl fX4_143 (hK_3 hS) (hR_3_2 hS) ?_
  refine r_aload0 (pc2 := 8) dX4_kindAtHand_7 rfl ?_
  refine r_getI (z := ((r.1 : Nat) : Int)) (pc2 := 11) dX4_kindAtHand_8 rfl (Or.inl fX4_44) (hK_9 hS) rM_t ?_
  refine r_iald (z := (kK T r.1)) (pc2 := 12) dX4_kindAtHand_11 rfl (hK_6 hS) (r.1) rfl (by omega) (by rw [rM_c (by decide)]; exact hC.k ho) ?_
  refine r_ireti dX4_kindAtHand_12 rfl ?_
  exact ⟨rfl, rfl⟩
set_option maxHeartbeats 4000000 in
theorem c_X4_fail {d : Nat} {M : pM} {T : tD} {r : rdT} {w : Int} (hS : sOk M.1) (hT : tOk T) (hC : cT M T) (ho : rOk T r) (hw : 1 ≤ w ∧ w ≤ 5) : Ct (d + 1) 0 0 yX4_fail [.ref 9, .int (iI w)] (rM M r) (fun v M2 => v = none ∧ M2 = rM M (fl T w r)) := by
  refine ct_in (d := d) kX4_fail rfl (by decide) (Nat.le_of_ble_eq_true rfl) (by decide) ?_
  show Go (Ct d) _ yX4_fail cX4_fail none 0 0 0 [some (.ref 9), some (.int (iI w))] [] (rM M r)
  have hT1 := hT.1
  have ho1 := ho.1
  have ho2 := ho.2.1
  have ho3 := ho.2.2
  refine r_aload0 (pc2 := 1) dX4_fail_0 rfl ?_
  refine r_getI (z := r.2) (pc2 := 4) dX4_fail_1 rfl (Or.inl fX4_57) (hK_9 hS) rM_f ?_
  refine r_ifne (tgt := 28) (pc2 := 7) dX4_fail_4 rfl (by decide) ⟨by omega, by omega⟩ (fun b_4 => ?_) (fun b_4 => ?_)
  · refine r_ret dX4_fail_28 rfl ?_
    refine ⟨rfl, ?_⟩
    rw [fl, if_neg b_4]
  · refine r_aload0 (pc2 := 8) dX4_fail_7 rfl ?_
    refine r_iload1 (pc2 := 9) dX4_fail_8 rfl ?_
    refine r_bipush (pc2 := 11) dX4_fail_9 rfl (by decide) (by decide) ?_
    refine r_aload0 (pc2 := 12) dX4_fail_11 rfl ?_
    refine r_getR (pc2 := 15) dX4_fail_12 rfl fX4_40 (hK_9 hS) (hR_9_0 hS) ?_
    refine r_getR (pc2 := 18) dX4_fail_15 rfl fX4_146 (hK_3 hS) (hR_3_3 hS) ?_
    refine r_aload0 (pc2 := 19) dX4_fail_18 rfl ?_
    refine r_getI (z := ((r.1 : Nat) : Int)) (pc2 := 22) dX4_fail_19 rfl (Or.inl fX4_44) (hK_9 hS) rM_t ?_
    refine r_iald (z := ((kS T r.1 : Nat) : Int)) (pc2 := 23) dX4_fail_22 rfl (hK_7 hS) (r.1) rfl (by omega) (by rw [rM_c (by decide)]; exact (hC.2.1 r.1 ho.1).2) ?_
    refine r_imul (c := (16 * ((kS T r.1 : Nat) : Int))) (pc2 := 24) dX4_fail_23 rfl rfl ?_
    refine r_iadd (c := (w + (16 * ((kS T r.1 : Nat) : Int)))) (pc2 := 25) dX4_fail_24 rfl rfl ?_
    refine r_putI (z := (w + (16 * ((kS T r.1 : Nat) : Int)))) (pc2 := 28) dX4_fail_25 rfl fX4_57 (w4_14 _) (hK_9 hS) (by decide) ?_
    refine r_ret dX4_fail_28 rfl ?_
    refine ⟨rfl, ?_⟩
    rw [fl, if_pos (by omega)]
    exact pI_pI
set_option maxHeartbeats 4000000 in
theorem c_X4_advance {d : Nat} {M : pM} {T : tD} {r : rdT}  (hS : sOk M.1) (hT : tOk T) (hC : cT M T) (ho : rOk T r) : Ct (d + 1) 0 0 yX4_advance [.ref 9] (rM M r) (fun v M2 => v = none ∧ M2 = rM M (av T r)) := by
  refine ct_in (d := d) kX4_advance rfl (by decide) (Nat.le_of_ble_eq_true rfl) (by decide) ?_
  show Go (Ct d) _ yX4_advance cX4_advance none 0 0 0 [some (.ref 9)] [] (rM M r)
  have hT1 := hT.1
  have ho1 := ho.1
  have ho2 := ho.2.1
  have ho3 := ho.2.2
  refine r_aload0 (pc2 := 1) dX4_advance_0 rfl ?_
  refine r_getI (z := r.2) (pc2 := 4) dX4_advance_1 rfl (Or.inl fX4_57) (hK_9 hS) rM_f ?_
  refine r_ifne (tgt := 31) (pc2 := 7) dX4_advance_4 rfl (by decide) ⟨by omega, by omega⟩ (fun b_4 => ?_) (fun b_4 => ?_)
  · refine r_ret dX4_advance_31 rfl ?_
    refine ⟨rfl, ?_⟩
    rw [av_n b_4]
  · refine r_aload0 (pc2 := 8) dX4_advance_7 rfl ?_
    refine r_getI (z := ((r.1 : Nat) : Int)) (pc2 := 11) dX4_advance_8 rfl (Or.inl fX4_44) (hK_9 hS) rM_t ?_
    refine r_aload0 (pc2 := 12) dX4_advance_11 rfl ?_
    refine r_getR (pc2 := 15) dX4_advance_12 rfl fX4_40 (hK_9 hS) (hR_9_0 hS) ?_
    refine r_getI (z := ((T.1 : Nat) : Int)) (pc2 := 18) dX4_advance_15 rfl (Or.inl fX4_149) (hK_3 hS) (by rw [rM_c (by decide)]; exact hC.1) ?_
    refine r_icge (tgt := 31) (pc2 := 21) dX4_advance_18 rfl (by decide) ⟨by omega, by omega⟩ ⟨by omega, by omega⟩ (fun b_18 => ?_) (fun b_18 => ?_)
    · refine r_ret dX4_advance_31 rfl ?_
      refine ⟨rfl, ?_⟩
      rw [av, if_neg (by omega)]
    · refine r_aload0 (pc2 := 22) dX4_advance_21 rfl ?_
      refine r_dup (pc2 := 23) dX4_advance_22 rfl rfl ?_
      refine r_getI (z := ((r.1 : Nat) : Int)) (pc2 := 26) dX4_advance_23 rfl (Or.inl fX4_44) (hK_9 hS) rM_t ?_
      refine r_iconst (pc2 := 27) dX4_advance_26 rfl ?_
      refine r_iadd (c := (((r.1 + 1) : Nat) : Int)) (pc2 := 28) dX4_advance_27 rfl (by omega) ?_
      refine r_putI (z := (((r.1 + 1) : Nat) : Int)) (pc2 := 31) dX4_advance_28 rfl fX4_44 (w4_10 _) (hK_9 hS) (by decide) ?_
      refine r_ret dX4_advance_31 rfl ?_
      refine ⟨rfl, ?_⟩
      rw [av_y (by omega) (by omega)]
      show pI (pI (pI M 9 10 ((r.1 : Nat) : Int)) 9 14 r.2) 9 10 (((r.1 + 1 : Nat)) : Int) = pI (pI M 9 10 (((r.1 + 1 : Nat)) : Int)) 9 14 0
      rw [pI_comm (by omega), pI_pI, show r.2 = 0 by omega]
set_option maxHeartbeats 4000000 in
theorem c_X4_readKind {d : Nat} {M : pM} {T : tD} {r : rdT} {k : Int} (hS : sOk M.1) (hT : tOk T) (hC : cT M T) (ho : rOk T r) (hk : inR k) : Ct (d + 2) 0 0 yX4_readKind [.ref 9, .int (iI k)] (rM M r) (fun v M2 => v = none ∧ M2 = rM M (rK T k r)) := by
  refine ct_in (d := (d + 1)) kX4_readKind rfl (by decide) (Nat.le_of_ble_eq_true rfl) (by decide) ?_
  show Go (Ct (d + 1)) _ yX4_readKind cX4_readKind none 0 0 0 [some (.ref 9), some (.int (iI k))] [] (rM M r)
  have hT1 := hT.1
  have ho1 := ho.1
  have ho2 := ho.2.1
  have ho3 := ho.2.2
  obtain ⟨k1, k2⟩ := hk
  have kr := kK_r hT ho.1
  refine r_aload0 (pc2 := 1) dX4_readKind_0 rfl ?_
  refine r_cv0 (pc2 := 4) dX4_readKind_1 rfl vX4_72 (hK_9 hS) (by decide) (c_X4_kindAtHand (d := d) (M := M) (r := r) hS hT hC ho) ?_
  rintro _ M9 ⟨rfl, h9⟩
  rw [h9]
  show Go (Ct (d + 1)) _ yX4_readKind cX4_readKind none 0 0 4 [some (.ref 9), some (.int (iI k))] [.int (iI (kK T r.1))] (rM M r)
  refine r_iload1 (pc2 := 5) dX4_readKind_4 rfl ?_
  refine r_iceq (tgt := 13) (pc2 := 8) dX4_readKind_5 rfl (by decide) ⟨by omega, by omega⟩ ⟨by omega, by omega⟩ (fun b_5 => ?_) (fun b_5 => ?_)
  · refine r_aload0 (pc2 := 14) dX4_readKind_13 rfl ?_
    refine r_cv0 (pc2 := 17) dX4_readKind_14 rfl vX4_108 (hK_9 hS) (by decide) (c_X4_advance (d := d) (M := M) (r := r) hS hT hC ho) ?_
    rintro _ M9 ⟨rfl, h9⟩
    rw [h9]
    show Go (Ct (d + 1)) _ yX4_readKind cX4_readKind none 0 0 17 [some (.ref 9), some (.int (iI k))] [] (rM M (av T r))
    refine r_ret dX4_readKind_17 rfl ?_
    refine ⟨rfl, ?_⟩
    rw [rK, if_pos (by omega)]
  · refine r_aload0 (pc2 := 9) dX4_readKind_8 rfl ?_
    refine r_iconst (pc2 := 10) dX4_readKind_9 rfl ?_
    refine r_cv1 (pc2 := 13) dX4_readKind_10 rfl vX4_104 (hK_9 hS) (by decide) (c_X4_fail (d := d) (M := M) (r := r) (w := 1) hS hT hC ho (by omega)) ?_
    rintro _ M9 ⟨rfl, h9⟩
    rw [h9]
    show Go (Ct (d + 1)) _ yX4_readKind cX4_readKind none 0 0 13 [some (.ref 9), some (.int (iI k))] [] (rM M (fl T 1 r))
    refine r_aload0 (pc2 := 14) dX4_readKind_13 rfl ?_
    refine r_cv0 (pc2 := 17) dX4_readKind_14 rfl vX4_108 (hK_9 hS) (by decide) (c_X4_advance (d := d) (M := M) (r := (fl T 1 r)) hS hT hC ((ho).f hT (by omega) (by omega))) ?_
    rintro _ M9 ⟨rfl, h9⟩
    rw [h9]
    show Go (Ct (d + 1)) _ yX4_readKind cX4_readKind none 0 0 17 [some (.ref 9), some (.int (iI k))] [] (rM M (av T (fl T 1 r)))
    refine r_ret dX4_readKind_17 rfl ?_
    refine ⟨rfl, ?_⟩
    rw [rK, if_neg b_5]
set_option maxHeartbeats 4000000 in
theorem c_X4_checkName {d : Nat} {M : pM} {T : tD} {r : rdT}  (hS : sOk M.1) (hT : tOk T) (hC : cT M T) (ho : rOk T r) : Ct (d + 2) 0 0 yX4_checkName [.ref 9] (rM M r) (fun v M2 => v = none ∧ M2 = rM M (if kK T r.1 = 18 then r else fl T 1 r)) := by
  refine ct_in (d := (d + 1)) kX4_checkName rfl (by decide) (Nat.le_of_ble_eq_true rfl) (by decide) ?_
  show Go (Ct (d + 1)) _ yX4_checkName cX4_checkName none 0 0 0 [some (.ref 9)] [] (rM M r)
  have hT1 := hT.1
  have ho1 := ho.1
  have ho2 := ho.2.1
  have ho3 := ho.2.2
  have kr := kK_r hT ho.1
  refine r_aload0 (pc2 := 1) dX4_checkName_0 rfl ?_
  refine r_cv0 (pc2 := 4) dX4_checkName_1 rfl vX4_72 (hK_9 hS) (by decide) (c_X4_kindAtHand (d := d) (M := M) (r := r) hS hT hC ho) ?_
  rintro _ M9 ⟨rfl, h9⟩
  rw [h9]
  show Go (Ct (d + 1)) _ yX4_checkName cX4_checkName none 0 0 4 [some (.ref 9)] [.int (iI (kK T r.1))] (rM M r)
  refine r_bipush (pc2 := 6) dX4_checkName_4 rfl (by decide) (by decide) ?_
  refine r_iceq (tgt := 14) (pc2 := 9) dX4_checkName_6 rfl (by decide) ⟨by omega, by omega⟩ ⟨by omega, by omega⟩ (fun b_6 => ?_) (fun b_6 => ?_)
  · refine r_ret dX4_checkName_14 rfl ?_
    refine ⟨rfl, ?_⟩
    rw [if_pos (by omega)]
  · refine r_aload0 (pc2 := 10) dX4_checkName_9 rfl ?_
    refine r_iconst (pc2 := 11) dX4_checkName_10 rfl ?_
    refine r_cv1 (pc2 := 14) dX4_checkName_11 rfl vX4_104 (hK_9 hS) (by decide) (c_X4_fail (d := d) (M := M) (r := r) (w := 1) hS hT hC ho (by omega)) ?_
    rintro _ M9 ⟨rfl, h9⟩
    rw [h9]
    show Go (Ct (d + 1)) _ yX4_checkName cX4_checkName none 0 0 14 [some (.ref 9)] [] (rM M (fl T 1 r))
    refine r_ret dX4_checkName_14 rfl ?_
    refine ⟨rfl, ?_⟩
    rw [if_neg b_6]
theorem jL_cmp {a b : Int} (ha : -9223372036854775808 ≤ a ∧ a < 9223372036854775808) (hb : -9223372036854775808 ≤ b ∧ b < 9223372036854775808) : (lcm_ (jL a) (jL b) < 0 ↔ a < b) ∧ (0 < lcm_ (jL a) (jL b) ↔ b < a) := by
  have e1 : (jL a).toInt = a := Int64.toInt_ofInt_of_le ha.1 ha.2
  have e2 : (jL b).toInt = b := Int64.toInt_ofInt_of_le hb.1 hb.2
  have := lcm_lt (jL a) (jL b)
  rw [e1, e2] at this
  exact this
theorem lN_cmp {n : Nat} {b : Int} (hn : n < 1000000) (hb : inR b) : (lcm_ (lN n) (jL b) < 0 ↔ (n : Int) < b) ∧ (0 < lcm_ (lN n) (jL b) ↔ b < (n : Int)) := by
  obtain ⟨b1, b2⟩ := hb
  rw [← jL_nat]
  exact jL_cmp ⟨by omega, by omega⟩ ⟨by omega, by omega⟩
theorem iI_ex (x : Int32) : ∃ z, inR z ∧ x = iI z := ⟨x.toInt, inR_toInt x, iI_of x⟩
set_option maxHeartbeats 4000000 in
theorem c_X4_readNumber {d : Nat} {M : pM} {T : tD} {r : rdT} {lo hi : Int} (hS : sOk M.1) (hT : tOk T) (hC : cT M T) (ho : rOk T r) (hlo : inR lo) (hhi : inR hi) : Ct (d + 2) 0 0 yX4_readNumber [.ref 9, .int (iI lo), .int (iI hi)] (rM M r) (fun v M2 => ∃ z, inR z ∧ v = some (.int (iI z)) ∧ M2 = rM M (rN T lo hi r) ∧ ((rN T lo hi r).2 = 0 → z = ((kV T r.1 : Nat) : Int))) := by
  refine ct_in (d := (d + 1)) kX4_readNumber rfl (by decide) (Nat.le_of_ble_eq_true rfl) (by decide) ?_
  show Go (Ct (d + 1)) _ yX4_readNumber cX4_readNumber (some .int) 0 0 0 [some (.ref 9), some (.int (iI lo)), some (.int (iI hi)), none, none] [] (rM M r)
  have hT1 := hT.1
  have ho1 := ho.1
  have ho2 := ho.2.1
  have ho3 := ho.2.2
  obtain ⟨lo1, lo2⟩ := hlo
  obtain ⟨hi1, hi2⟩ := hhi
  have kr := kK_r hT ho.1
  by_cases hk19 : kK T r.1 = 19
  · have hl := K_lt hT ho.1 (by omega)
    have hv := hT.2.2.2.2.1 r.1 hl hk19
    have hv : kV T r.1 ≤ 999 := hv
    have hx : (rM M r).2.2 8 r.1 = lN (kV T r.1) := hC.2.2.1 r.1 hl hk19
    have c33 := lN_cmp (n := kV T r.1) (b := lo) (by omega) ⟨lo1, lo2⟩
    have c40 := lN_cmp (n := kV T r.1) (b := hi) (by omega) ⟨hi1, hi2⟩
    refine r_aload0 (pc2 := 1) dX4_readNumber_0 rfl ?_
    refine r_getR (pc2 := 4) dX4_readNumber_1 rfl fX4_40 (hK_9 hS) (hR_9_0 hS) ?_
    refine r_getR (pc2 := 7) dX4_readNumber_4 rfl fX4_140 (hK_3 hS) (hR_3_4 hS) ?_
    refine r_aload0 (pc2 := 8) dX4_readNumber_7 rfl ?_
    refine r_getI (z := ((r.1 : Nat) : Int)) (pc2 := 11) dX4_readNumber_8 rfl (Or.inl fX4_44) (hK_9 hS) rM_t ?_
    refine r_lald (z := (lN (kV T r.1))) (pc2 := 12) dX4_readNumber_11 rfl (hK_8 hS) (r.1) rfl (by omega) hx ?_
    refine r_lstore3 (pc2 := 13) dX4_readNumber_12 rfl rfl ?_
    refine r_aload0 (pc2 := 14) dX4_readNumber_13 rfl ?_
    refine r_cv0 (pc2 := 17) dX4_readNumber_14 rfl vX4_72 (hK_9 hS) (by decide) (c_X4_kindAtHand (d := d) (M := M) (r := r) hS hT hC ho) ?_
    rintro _ M9 ⟨rfl, h9⟩
    rw [h9]
    show Go (Ct (d + 1)) _ yX4_readNumber cX4_readNumber (some .int) 0 0 17 [some (.ref 9), some (.int (iI lo)), some (.int (iI hi)), some (.long ((lN (kV T r.1)))), none] [.int (iI (kK T r.1))] (rM M r)
    refine r_bipush (pc2 := 19) dX4_readNumber_17 rfl (by decide) (by decide) ?_
    refine r_iceq (tgt := 30) (pc2 := 22) dX4_readNumber_19 rfl (by decide) ⟨by omega, by omega⟩ ⟨by omega, by omega⟩ (fun b_19 => ?_) (fun b_19 => ?_)
    · refine r_lload3 (pc2 := 31) dX4_readNumber_30 rfl ?_
      refine r_iload1 (pc2 := 32) dX4_readNumber_31 rfl ?_
      refine r_i2l (pc2 := 33) dX4_readNumber_32 rfl ⟨by omega, by omega⟩ ?_
      refine r_lcmp (pc2 := 34) dX4_readNumber_33 rfl ?_
      have lr33 := lcm_r ((lN (kV T r.1))) (jL lo)
      rw [lg_iI]
      refine r_iflt (tgt := 44) (pc2 := 37) dX4_readNumber_34 rfl (by decide) ⟨by omega, by omega⟩ (fun b_34 => ?_) (fun b_34 => ?_)
      · refine r_aload0 (pc2 := 45) dX4_readNumber_44 rfl ?_
        refine r_iconst (pc2 := 46) dX4_readNumber_45 rfl ?_
        refine r_cv1 (pc2 := 49) dX4_readNumber_46 rfl vX4_104 (hK_9 hS) (by decide) (c_X4_fail (d := d) (M := M) (r := r) (w := 4) hS hT hC ho (by omega)) ?_
        rintro _ M9 ⟨rfl, h9⟩
        rw [h9]
        show Go (Ct (d + 1)) _ yX4_readNumber cX4_readNumber (some .int) 0 0 49 [some (.ref 9), some (.int (iI lo)), some (.int (iI hi)), some (.long ((lN (kV T r.1)))), none] [] (rM M (fl T 4 r))
        refine r_aload0 (pc2 := 50) dX4_readNumber_49 rfl ?_
        refine r_cv0 (pc2 := 53) dX4_readNumber_50 rfl vX4_108 (hK_9 hS) (by decide) (c_X4_advance (d := d) (M := M) (r := (fl T 4 r)) hS hT hC ((ho).f hT (by omega) (by omega))) ?_
        rintro _ M9 ⟨rfl, h9⟩
        rw [h9]
        show Go (Ct (d + 1)) _ yX4_readNumber cX4_readNumber (some .int) 0 0 53 [some (.ref 9), some (.int (iI lo)), some (.int (iI hi)), some (.long ((lN (kV T r.1)))), none] [] (rM M (av T (fl T 4 r)))
        refine r_lload3 (pc2 := 54) dX4_readNumber_53 rfl ?_
        refine r_l2i (pc2 := 55) dX4_readNumber_54 rfl ?_
        refine r_ireti dX4_readNumber_55 rfl ?_
        have hbad : ((kV T r.1 : Nat) : Int) < lo ∨ hi < ((kV T r.1 : Nat) : Int) := by have := c33.1; omega
        refine ⟨((kV T r.1 : Nat) : Int), ⟨by omega, by omega⟩, by rw [← jL_nat, jL_l2i], by rw [rN, if_pos hk19, if_pos hbad], fun _ => rfl⟩
      · refine r_lload3 (pc2 := 38) dX4_readNumber_37 rfl ?_
        refine r_iload2 (pc2 := 39) dX4_readNumber_38 rfl ?_
        refine r_i2l (pc2 := 40) dX4_readNumber_39 rfl ⟨by omega, by omega⟩ ?_
        refine r_lcmp (pc2 := 41) dX4_readNumber_40 rfl ?_
        have lr40 := lcm_r ((lN (kV T r.1))) (jL hi)
        rw [lg_iI]
        refine r_ifle (tgt := 49) (pc2 := 44) dX4_readNumber_41 rfl (by decide) ⟨by omega, by omega⟩ (fun b_41 => ?_) (fun b_41 => ?_)
        · refine r_aload0 (pc2 := 50) dX4_readNumber_49 rfl ?_
          refine r_cv0 (pc2 := 53) dX4_readNumber_50 rfl vX4_108 (hK_9 hS) (by decide) (c_X4_advance (d := d) (M := M) (r := r) hS hT hC ho) ?_
          rintro _ M9 ⟨rfl, h9⟩
          rw [h9]
          show Go (Ct (d + 1)) _ yX4_readNumber cX4_readNumber (some .int) 0 0 53 [some (.ref 9), some (.int (iI lo)), some (.int (iI hi)), some (.long ((lN (kV T r.1)))), none] [] (rM M (av T r))
          refine r_lload3 (pc2 := 54) dX4_readNumber_53 rfl ?_
          refine r_l2i (pc2 := 55) dX4_readNumber_54 rfl ?_
          refine r_ireti dX4_readNumber_55 rfl ?_
          have hgood : ¬ (((kV T r.1 : Nat) : Int) < lo ∨ hi < ((kV T r.1 : Nat) : Int)) := by have := c33.1; have := c40.2; omega
          refine ⟨((kV T r.1 : Nat) : Int), ⟨by omega, by omega⟩, by rw [← jL_nat, jL_l2i], by rw [rN, if_pos hk19, if_neg hgood], fun _ => rfl⟩
        · refine r_aload0 (pc2 := 45) dX4_readNumber_44 rfl ?_
          refine r_iconst (pc2 := 46) dX4_readNumber_45 rfl ?_
          refine r_cv1 (pc2 := 49) dX4_readNumber_46 rfl vX4_104 (hK_9 hS) (by decide) (c_X4_fail (d := d) (M := M) (r := r) (w := 4) hS hT hC ho (by omega)) ?_
          rintro _ M9 ⟨rfl, h9⟩
          rw [h9]
          show Go (Ct (d + 1)) _ yX4_readNumber cX4_readNumber (some .int) 0 0 49 [some (.ref 9), some (.int (iI lo)), some (.int (iI hi)), some (.long ((lN (kV T r.1)))), none] [] (rM M (fl T 4 r))
          refine r_aload0 (pc2 := 50) dX4_readNumber_49 rfl ?_
          refine r_cv0 (pc2 := 53) dX4_readNumber_50 rfl vX4_108 (hK_9 hS) (by decide) (c_X4_advance (d := d) (M := M) (r := (fl T 4 r)) hS hT hC ((ho).f hT (by omega) (by omega))) ?_
          rintro _ M9 ⟨rfl, h9⟩
          rw [h9]
          show Go (Ct (d + 1)) _ yX4_readNumber cX4_readNumber (some .int) 0 0 53 [some (.ref 9), some (.int (iI lo)), some (.int (iI hi)), some (.long ((lN (kV T r.1)))), none] [] (rM M (av T (fl T 4 r)))
          refine r_lload3 (pc2 := 54) dX4_readNumber_53 rfl ?_
          refine r_l2i (pc2 := 55) dX4_readNumber_54 rfl ?_
          refine r_ireti dX4_readNumber_55 rfl ?_
          have hbad : ((kV T r.1 : Nat) : Int) < lo ∨ hi < ((kV T r.1 : Nat) : Int) := by have := c33.1; have := c40.2; omega
          refine ⟨((kV T r.1 : Nat) : Int), ⟨by omega, by omega⟩, by rw [← jL_nat, jL_l2i], by rw [rN, if_pos hk19, if_pos hbad], fun _ => rfl⟩
    · refine r_aload0 (pc2 := 23) dX4_readNumber_22 rfl ?_
      refine r_iconst (pc2 := 24) dX4_readNumber_23 rfl ?_
      refine r_cv1 (pc2 := 27) dX4_readNumber_24 rfl vX4_104 (hK_9 hS) (by decide) (c_X4_fail (d := d) (M := M) (r := r) (w := 1) hS hT hC ho (by omega)) ?_
      rintro _ M9 ⟨rfl, h9⟩
      rw [h9]
      show Go (Ct (d + 1)) _ yX4_readNumber cX4_readNumber (some .int) 0 0 27 [some (.ref 9), some (.int (iI lo)), some (.int (iI hi)), some (.long ((lN (kV T r.1)))), none] [] (rM M (fl T 1 r))
      refine r_goto (tgt := 49) dX4_readNumber_27 (by decide) ?_
      refine r_aload0 (pc2 := 50) dX4_readNumber_49 rfl ?_
      refine r_cv0 (pc2 := 53) dX4_readNumber_50 rfl vX4_108 (hK_9 hS) (by decide) (c_X4_advance (d := d) (M := M) (r := (fl T 1 r)) hS hT hC ((ho).f hT (by omega) (by omega))) ?_
      rintro _ M9 ⟨rfl, h9⟩
      rw [h9]
      show Go (Ct (d + 1)) _ yX4_readNumber cX4_readNumber (some .int) 0 0 53 [some (.ref 9), some (.int (iI lo)), some (.int (iI hi)), some (.long ((lN (kV T r.1)))), none] [] (rM M (av T (fl T 1 r)))
      refine r_lload3 (pc2 := 54) dX4_readNumber_53 rfl ?_
      refine r_l2i (pc2 := 55) dX4_readNumber_54 rfl ?_
      refine r_ireti dX4_readNumber_55 rfl ?_
      exact absurd hk19 b_19
  · refine r_aload0 (pc2 := 1) dX4_readNumber_0 rfl ?_
    refine r_getR (pc2 := 4) dX4_readNumber_1 rfl fX4_40 (hK_9 hS) (hR_9_0 hS) ?_
    refine r_getR (pc2 := 7) dX4_readNumber_4 rfl fX4_140 (hK_3 hS) (hR_3_4 hS) ?_
    refine r_aload0 (pc2 := 8) dX4_readNumber_7 rfl ?_
    refine r_getI (z := ((r.1 : Nat) : Int)) (pc2 := 11) dX4_readNumber_8 rfl (Or.inl fX4_44) (hK_9 hS) rM_t ?_
    refine r_lald (z := (M.2.2 8 r.1)) (pc2 := 12) dX4_readNumber_11 rfl (hK_8 hS) (r.1) rfl (by omega) rfl ?_
    refine r_lstore3 (pc2 := 13) dX4_readNumber_12 rfl rfl ?_
    refine r_aload0 (pc2 := 14) dX4_readNumber_13 rfl ?_
    refine r_cv0 (pc2 := 17) dX4_readNumber_14 rfl vX4_72 (hK_9 hS) (by decide) (c_X4_kindAtHand (d := d) (M := M) (r := r) hS hT hC ho) ?_
    rintro _ M9 ⟨rfl, h9⟩
    rw [h9]
    show Go (Ct (d + 1)) _ yX4_readNumber cX4_readNumber (some .int) 0 0 17 [some (.ref 9), some (.int (iI lo)), some (.int (iI hi)), some (.long ((M.2.2 8 r.1))), none] [.int (iI (kK T r.1))] (rM M r)
    refine r_bipush (pc2 := 19) dX4_readNumber_17 rfl (by decide) (by decide) ?_
    refine r_iceq (tgt := 30) (pc2 := 22) dX4_readNumber_19 rfl (by decide) ⟨by omega, by omega⟩ ⟨by omega, by omega⟩ (fun b_19 => ?_) (fun b_19 => ?_)
    · refine r_lload3 (pc2 := 31) dX4_readNumber_30 rfl ?_
      refine r_iload1 (pc2 := 32) dX4_readNumber_31 rfl ?_
      refine r_i2l (pc2 := 33) dX4_readNumber_32 rfl ⟨by omega, by omega⟩ ?_
      refine r_lcmp (pc2 := 34) dX4_readNumber_33 rfl ?_
      have lr33 := lcm_r ((M.2.2 8 r.1)) (jL lo)
      rw [lg_iI]
      refine r_iflt (tgt := 44) (pc2 := 37) dX4_readNumber_34 rfl (by decide) ⟨by omega, by omega⟩ (fun b_34 => ?_) (fun b_34 => ?_)
      · refine r_aload0 (pc2 := 45) dX4_readNumber_44 rfl ?_
        refine r_iconst (pc2 := 46) dX4_readNumber_45 rfl ?_
        refine r_cv1 (pc2 := 49) dX4_readNumber_46 rfl vX4_104 (hK_9 hS) (by decide) (c_X4_fail (d := d) (M := M) (r := r) (w := 4) hS hT hC ho (by omega)) ?_
        rintro _ M9 ⟨rfl, h9⟩
        rw [h9]
        show Go (Ct (d + 1)) _ yX4_readNumber cX4_readNumber (some .int) 0 0 49 [some (.ref 9), some (.int (iI lo)), some (.int (iI hi)), some (.long ((M.2.2 8 r.1))), none] [] (rM M (fl T 4 r))
        refine r_aload0 (pc2 := 50) dX4_readNumber_49 rfl ?_
        refine r_cv0 (pc2 := 53) dX4_readNumber_50 rfl vX4_108 (hK_9 hS) (by decide) (c_X4_advance (d := d) (M := M) (r := (fl T 4 r)) hS hT hC ((ho).f hT (by omega) (by omega))) ?_
        rintro _ M9 ⟨rfl, h9⟩
        rw [h9]
        show Go (Ct (d + 1)) _ yX4_readNumber cX4_readNumber (some .int) 0 0 53 [some (.ref 9), some (.int (iI lo)), some (.int (iI hi)), some (.long ((M.2.2 8 r.1))), none] [] (rM M (av T (fl T 4 r)))
        refine r_lload3 (pc2 := 54) dX4_readNumber_53 rfl ?_
        refine r_l2i (pc2 := 55) dX4_readNumber_54 rfl ?_
        refine r_ireti dX4_readNumber_55 rfl ?_
        exact absurd b_19 hk19
      · refine r_lload3 (pc2 := 38) dX4_readNumber_37 rfl ?_
        refine r_iload2 (pc2 := 39) dX4_readNumber_38 rfl ?_
        refine r_i2l (pc2 := 40) dX4_readNumber_39 rfl ⟨by omega, by omega⟩ ?_
        refine r_lcmp (pc2 := 41) dX4_readNumber_40 rfl ?_
        have lr40 := lcm_r ((M.2.2 8 r.1)) (jL hi)
        rw [lg_iI]
        refine r_ifle (tgt := 49) (pc2 := 44) dX4_readNumber_41 rfl (by decide) ⟨by omega, by omega⟩ (fun b_41 => ?_) (fun b_41 => ?_)
        · refine r_aload0 (pc2 := 50) dX4_readNumber_49 rfl ?_
          refine r_cv0 (pc2 := 53) dX4_readNumber_50 rfl vX4_108 (hK_9 hS) (by decide) (c_X4_advance (d := d) (M := M) (r := r) hS hT hC ho) ?_
          rintro _ M9 ⟨rfl, h9⟩
          rw [h9]
          show Go (Ct (d + 1)) _ yX4_readNumber cX4_readNumber (some .int) 0 0 53 [some (.ref 9), some (.int (iI lo)), some (.int (iI hi)), some (.long ((M.2.2 8 r.1))), none] [] (rM M (av T r))
          refine r_lload3 (pc2 := 54) dX4_readNumber_53 rfl ?_
          refine r_l2i (pc2 := 55) dX4_readNumber_54 rfl ?_
          refine r_ireti dX4_readNumber_55 rfl ?_
          exact absurd b_19 hk19
        · refine r_aload0 (pc2 := 45) dX4_readNumber_44 rfl ?_
          refine r_iconst (pc2 := 46) dX4_readNumber_45 rfl ?_
          refine r_cv1 (pc2 := 49) dX4_readNumber_46 rfl vX4_104 (hK_9 hS) (by decide) (c_X4_fail (d := d) (M := M) (r := r) (w := 4) hS hT hC ho (by omega)) ?_
          rintro _ M9 ⟨rfl, h9⟩
          rw [h9]
          show Go (Ct (d + 1)) _ yX4_readNumber cX4_readNumber (some .int) 0 0 49 [some (.ref 9), some (.int (iI lo)), some (.int (iI hi)), some (.long ((M.2.2 8 r.1))), none] [] (rM M (fl T 4 r))
          refine r_aload0 (pc2 := 50) dX4_readNumber_49 rfl ?_
          refine r_cv0 (pc2 := 53) dX4_readNumber_50 rfl vX4_108 (hK_9 hS) (by decide) (c_X4_advance (d := d) (M := M) (r := (fl T 4 r)) hS hT hC ((ho).f hT (by omega) (by omega))) ?_
          rintro _ M9 ⟨rfl, h9⟩
          rw [h9]
          show Go (Ct (d + 1)) _ yX4_readNumber cX4_readNumber (some .int) 0 0 53 [some (.ref 9), some (.int (iI lo)), some (.int (iI hi)), some (.long ((M.2.2 8 r.1))), none] [] (rM M (av T (fl T 4 r)))
          refine r_lload3 (pc2 := 54) dX4_readNumber_53 rfl ?_
          refine r_l2i (pc2 := 55) dX4_readNumber_54 rfl ?_
          refine r_ireti dX4_readNumber_55 rfl ?_
          exact absurd b_19 hk19
    · refine r_aload0 (pc2 := 23) dX4_readNumber_22 rfl ?_
      refine r_iconst (pc2 := 24) dX4_readNumber_23 rfl ?_
      refine r_cv1 (pc2 := 27) dX4_readNumber_24 rfl vX4_104 (hK_9 hS) (by decide) (c_X4_fail (d := d) (M := M) (r := r) (w := 1) hS hT hC ho (by omega)) ?_
      rintro _ M9 ⟨rfl, h9⟩
      rw [h9]
      show Go (Ct (d + 1)) _ yX4_readNumber cX4_readNumber (some .int) 0 0 27 [some (.ref 9), some (.int (iI lo)), some (.int (iI hi)), some (.long ((M.2.2 8 r.1))), none] [] (rM M (fl T 1 r))
      refine r_goto (tgt := 49) dX4_readNumber_27 (by decide) ?_
      refine r_aload0 (pc2 := 50) dX4_readNumber_49 rfl ?_
      refine r_cv0 (pc2 := 53) dX4_readNumber_50 rfl vX4_108 (hK_9 hS) (by decide) (c_X4_advance (d := d) (M := M) (r := (fl T 1 r)) hS hT hC ((ho).f hT (by omega) (by omega))) ?_
      rintro _ M9 ⟨rfl, h9⟩
      rw [h9]
      show Go (Ct (d + 1)) _ yX4_readNumber cX4_readNumber (some .int) 0 0 53 [some (.ref 9), some (.int (iI lo)), some (.int (iI hi)), some (.long ((M.2.2 8 r.1))), none] [] (rM M (av T (fl T 1 r)))
      refine r_lload3 (pc2 := 54) dX4_readNumber_53 rfl ?_
      refine r_l2i (pc2 := 55) dX4_readNumber_54 rfl ?_
      refine r_ireti dX4_readNumber_55 rfl ?_
      obtain ⟨z, hz, hz2⟩ := iI_ex ((M.2.2 8 r.1).toInt32)
      refine ⟨z, hz, by rw [← hz2], by rw [rN, if_neg hk19], fun q => ?_⟩
      rw [rN, if_neg hk19] at q
      exact absurd (av_0 q) (fl_f (by omega) ho2)
set_option maxHeartbeats 4000000 in
theorem c_X4_readShift {d : Nat} {M : pM} {T : tD} {r : rdT}  (hS : sOk M.1) (hT : tOk T) (hC : cT M T) (ho : rOk T r) : Ct (d + 3) 0 0 yX4_readShift [.ref 9] (rM M r) (fun v M2 => ∃ z, inR z ∧ v = some (.int (iI z)) ∧ M2 = rM M (rS T r) ∧ ((rS T r).2 = 0 → z = sV T r)) := by
  refine ct_in (d := (d + 2)) kX4_readShift rfl (by decide) (Nat.le_of_ble_eq_true rfl) (by decide) ?_
  show Go (Ct (d + 2)) _ yX4_readShift cX4_readShift (some .int) 0 0 0 [some (.ref 9), none, none] [] (rM M r)
  have hT1 := hT.1
  have ho1 := ho.1
  have ho2 := ho.2.1
  have ho3 := ho.2.2
  have kr := kK_r hT ho.1
  refine r_aload0 (pc2 := 1) dX4_readShift_0 rfl ?_
  refine r_cv0 (pc2 := 4) dX4_readShift_1 rfl vX4_72 (hK_9 hS) (by decide) (c_X4_kindAtHand (d := d + 1) (M := M) (r := r) hS hT hC ho) ?_
  rintro _ M9 ⟨rfl, h9⟩
  rw [h9]
  show Go (Ct (d + 2)) _ yX4_readShift cX4_readShift (some .int) 0 0 4 [some (.ref 9), none, none] [.int (iI (kK T r.1))] (rM M r)
  refine r_bipush (pc2 := 6) dX4_readShift_4 rfl (by decide) (by decide) ?_
  refine r_icne (tgt := 13) (pc2 := 9) dX4_readShift_6 rfl (by decide) ⟨by omega, by omega⟩ ⟨by omega, by omega⟩ (fun b_6 => ?_) (fun b_6 => ?_)
  · refine r_iconst (pc2 := 14) dX4_readShift_13 rfl ?_
    refine r_istore1 (pc2 := 15) dX4_readShift_14 rfl rfl ?_
    refine r_iload1 (pc2 := 16) dX4_readShift_15 rfl ?_
    refine r_ifeq (tgt := 23) (pc2 := 19) dX4_readShift_16 rfl (by decide) ⟨by omega, by omega⟩ (fun _ => ?_) (fun h9 => absurd h9 (by decide))
    refine r_aload0 (pc2 := 24) dX4_readShift_23 rfl ?_
    refine r_iconst (pc2 := 25) dX4_readShift_24 rfl ?_
    refine r_bipush (pc2 := 27) dX4_readShift_25 rfl (by decide) (by decide) ?_
    refine r_cv2 (pc2 := 30) dX4_readShift_27 rfl vX4_111 (hK_9 hS) (by decide) (c_X4_readNumber (d := d) (M := M) (r := r) (lo := 0) (hi := 12) hS hT hC ho ⟨by omega, by omega⟩ ⟨by omega, by omega⟩) ?_
    rintro _ M9 ⟨z, hz, rfl, h9, hv⟩
    rw [h9]
    obtain ⟨z1, z2⟩ := hz
    show Go (Ct (d + 2)) _ yX4_readShift cX4_readShift (some .int) 0 0 30 [some (.ref 9), some (.int (iI 0)), none] [.int (iI z)] (rM M (rN T 0 12 r))
    refine r_istore2 (pc2 := 31) dX4_readShift_30 rfl rfl ?_
    refine r_iload1 (pc2 := 32) dX4_readShift_31 rfl ?_
    refine r_ifeq (tgt := 40) (pc2 := 35) dX4_readShift_32 rfl (by decide) ⟨by omega, by omega⟩ (fun _ => ?_) (fun h9 => absurd h9 (by decide))
    refine r_iload2 (pc2 := 41) dX4_readShift_40 rfl ?_
    refine r_ireti dX4_readShift_41 rfl ?_
    refine ⟨z, ⟨by omega, by omega⟩, rfl, by rw [rS, if_neg b_6], fun q => ?_⟩
    rw [rS, if_neg b_6] at q
    rw [sV, if_neg b_6]; exact hv q
  · refine r_iconst (pc2 := 10) dX4_readShift_9 rfl ?_
    refine r_goto (tgt := 14) dX4_readShift_10 (by decide) ?_
    refine r_istore1 (pc2 := 15) dX4_readShift_14 rfl rfl ?_
    refine r_iload1 (pc2 := 16) dX4_readShift_15 rfl ?_
    refine r_ifeq (tgt := 23) (pc2 := 19) dX4_readShift_16 rfl (by decide) ⟨by omega, by omega⟩ (fun h9 => absurd h9 (by decide)) (fun _ => ?_)
    refine r_aload0 (pc2 := 20) dX4_readShift_19 rfl ?_
    refine r_cv0 (pc2 := 23) dX4_readShift_20 rfl vX4_108 (hK_9 hS) (by decide) (c_X4_advance (d := d + 1) (M := M) (r := r) hS hT hC ho) ?_
    rintro _ M9 ⟨rfl, h9⟩
    rw [h9]
    show Go (Ct (d + 2)) _ yX4_readShift cX4_readShift (some .int) 0 0 23 [some (.ref 9), some (.int (iI 1)), none] [] (rM M (av T r))
    refine r_aload0 (pc2 := 24) dX4_readShift_23 rfl ?_
    refine r_iconst (pc2 := 25) dX4_readShift_24 rfl ?_
    refine r_bipush (pc2 := 27) dX4_readShift_25 rfl (by decide) (by decide) ?_
    refine r_cv2 (pc2 := 30) dX4_readShift_27 rfl vX4_111 (hK_9 hS) (by decide) (c_X4_readNumber (d := d) (M := M) (r := (av T r)) (lo := 0) (hi := 12) hS hT hC (ho).a ⟨by omega, by omega⟩ ⟨by omega, by omega⟩) ?_
    rintro _ M9 ⟨z, hz, rfl, h9, hv⟩
    rw [h9]
    obtain ⟨z1, z2⟩ := hz
    show Go (Ct (d + 2)) _ yX4_readShift cX4_readShift (some .int) 0 0 30 [some (.ref 9), some (.int (iI 1)), none] [.int (iI z)] (rM M (rN T 0 12 (av T r)))
    refine r_istore2 (pc2 := 31) dX4_readShift_30 rfl rfl ?_
    refine r_iload1 (pc2 := 32) dX4_readShift_31 rfl ?_
    refine r_ifeq (tgt := 40) (pc2 := 35) dX4_readShift_32 rfl (by decide) ⟨by omega, by omega⟩ (fun h9 => absurd h9 (by decide)) (fun _ => ?_)
    refine r_iload2 (pc2 := 36) dX4_readShift_35 rfl ?_
    refine r_ineg (c := (-z)) (pc2 := 37) dX4_readShift_36 rfl rfl ?_
    refine r_goto (tgt := 41) dX4_readShift_37 (by decide) ?_
    refine r_ireti dX4_readShift_41 rfl ?_
    obtain ⟨y, hy, hy2⟩ := iI_ex (iI (-z))
    refine ⟨y, hy, by rw [hy2], by rw [rS, if_pos (by omega)], fun q => ?_⟩
    rw [rS, if_pos (by omega)] at q
    have e9 := hv q
    have h8 := (rN_0 hT ho.a q).2.2.1
    have h7 : inR (-z) := ⟨by omega, by omega⟩
    rw [sV, if_pos (by omega), ← e9]
    exact ((iI_inj h7 hy).mp hy2).symm
