/-! the model's reading (317: at 7, fault 8, codes 10, names 14; sort 319, place 320, value 321, words 322, op 323, arg 324, ends 325, name 326, nameAt 327) -/
def mM (M : pM) (r : rdT) : pM := pI (pI M 317 7 ((r.1 : Nat) : Int)) 317 8 r.2
def mT (M : pM) (T : tD) : Prop := MT M T.1 (kK T) (kS T) (kV T) (kI T)
def pw (w : Nat) : Nat := if w < 8 then w + 10 else w - 7
def mWd (M : pM) : Prop := ∀ w, w < 17 → M.2.2 322 w = lN (m37 8 (kwI (pw w)))
theorem mM_o {M : pM} {r : rdT} {a k : Nat} {z : Int} (h : a ≠ 317 ∨ (k ≠ 7 ∧ k ≠ 8)) : pI (mM M r) a k z = mM (pI M a k z) r := by
  unfold mM
  rw [pI_comm (by omega), pI_comm (a := 317) (k := 7) (by omega)]
theorem mM_J {M : pM} {r : rdT} {a k : Nat} {z : Int64} : pJ (mM M r) a k z = mM (pJ M a k z) r := rfl
theorem mM_id {M : pM} {r : rdT} (h1 : M.2.1 317 7 = ((r.1 : Nat) : Int)) (h2 : M.2.1 317 8 = r.2) : mM M r = M := by
  unfold mM
  rw [pI_self h1, pI_self h2]
theorem mM_t {M : pM} {r : rdT} : (mM M r).2.1 317 7 = ((r.1 : Nat) : Int) := rfl
theorem mM_f {M : pM} {r : rdT} : (mM M r).2.1 317 8 = r.2 := rfl
theorem mM_c {M : pM} {r : rdT} {a : Nat} (h : a ≠ 317) : (mM M r).2.1 a = M.2.1 a := by unfold mM; rw [pI_ne h, pI_ne h]
theorem mM_a {M : pM} {r : rdT} {t : Nat} : pI (mM M r) 317 7 ((t : Nat) : Int) = mM M (t, r.2) := by
  unfold mM
  rw [pI_comm (by omega), pI_pI]
theorem pw_r {w : Nat} (h : w < 17) : 1 ≤ pw w ∧ pw w ≤ 17 := by unfold pw; split <;> omega
theorem mSo_3 {T : tD} (hT : tOk T) {i : Nat} (h : i ≤ T.1) : (mSo (kK T i) = 3 ↔ 40 ≤ kK T i) ∧ (mSo (kK T i) = 1 ↔ isW (kK T i)) ∧ (mSo (kK T i) = 2 ↔ kK T i = 19) ∧ (mSo (kK T i) = 0 ↔ kK T i = 22) := by
  have h2 : ((1 ≤ kK T i ∧ kK T i ≤ 20) ∨ kK T i = 40 ∨ kK T i = 41 ∨ kK T i = 45 ∨ kK T i = 59) ∨ kK T i = 22 := by
    rcases (show i < T.1 ∨ i = T.1 by omega) with q | q
    · exact Or.inl (hT.2.2.2.1 i q)
    · rw [q]; exact Or.inr hT.2.1
  unfold mSo isW
  (repeat' split) <;> omega

set_option maxHeartbeats 4000000 in
theorem c_X12_wrong {d : Nat} {M : pM} {T : tD} {r : rdT} {w : Int} (hS : sOk M.1) (hT : tOk T) (hC : mT M T) (ho : rOk T r) (hw : 1 ≤ w ∧ w ≤ 5) : Ct (d + 1) 0 0 yX12_wrong [.ref 317, .int (iI w)] (mM M r) (fun v M2 => v = none ∧ M2 = mM M (fl T w r)) := by
  refine ct_in (d := d) kX12_wrong rfl (by decide) (Nat.le_of_ble_eq_true rfl) (by decide) ?_
  show Go (Ct d) _ yX12_wrong cX12_wrong none 0 0 0 [some (.ref 317), some (.int (iI w))] [] (mM M r)
  have hT1 := hT.1
  have ho1 := ho.1
  have ho2 := ho.2.1
  have ho3 := ho.2.2
  have hso := mSo_3 hT ho.1
  have hsr := mSo_r (k := kK T r.1)
  refine r_aload0 (pc2 := 1) dX12_wrong_0 rfl ?_
  refine r_getI (z := r.2) (pc2 := 4) dX12_wrong_1 rfl (Or.inl fX12_182) (hK_317 hS) mM_f ?_
  refine r_ifne (tgt := 25) (pc2 := 7) dX12_wrong_4 rfl (by decide) ⟨by omega, by omega⟩ (fun b_4 => ?_) (fun b_4 => ?_)
  · refine r_ret dX12_wrong_25 rfl ?_
    refine ⟨rfl, ?_⟩
    rw [fl, if_neg b_4]
  · refine r_aload0 (pc2 := 8) dX12_wrong_7 rfl ?_
    refine r_iload1 (pc2 := 9) dX12_wrong_8 rfl ?_
    refine r_bipush (pc2 := 11) dX12_wrong_9 rfl (by decide) (by decide) ?_
    refine r_aload0 (pc2 := 12) dX12_wrong_11 rfl ?_
    refine r_getR (pc2 := 15) dX12_wrong_12 rfl fX12_27 (hK_317 hS) (hR_317_5 hS) ?_
    refine r_aload0 (pc2 := 16) dX12_wrong_15 rfl ?_
    refine r_getI (z := ((r.1 : Nat) : Int)) (pc2 := 19) dX12_wrong_16 rfl (Or.inl fX12_179) (hK_317 hS) mM_t ?_
    refine r_iald (z := ((kS T r.1 : Nat) : Int)) (pc2 := 20) dX12_wrong_19 rfl (hK_320 hS) (r.1) rfl (by omega) (by rw [mM_c (by decide)]; exact (hC.1 r.1 ho.1).2) ?_
    refine r_imul (c := (16 * ((kS T r.1 : Nat) : Int))) (pc2 := 21) dX12_wrong_20 rfl rfl ?_
    refine r_iadd (c := (w + (16 * ((kS T r.1 : Nat) : Int)))) (pc2 := 22) dX12_wrong_21 rfl rfl ?_
    refine r_putI (z := (w + (16 * ((kS T r.1 : Nat) : Int)))) (pc2 := 25) dX12_wrong_22 rfl fX12_182 (w12_8 _) (hK_317 hS) (by decide) ?_
    refine r_ret dX12_wrong_25 rfl ?_
    refine ⟨rfl, ?_⟩
    rw [fl, if_pos (by omega)]
    exact pI_pI
set_option maxHeartbeats 4000000 in
theorem c_X12_isSign {d : Nat} {M : pM} {T : tD} {r : rdT} {c : Int} (hS : sOk M.1) (hT : tOk T) (hC : mT M T) (ho : rOk T r) (hc : 40 ≤ c ∧ c ≤ 59) : Ct (d + 1) 0 0 yX12_isSign [.ref 317, .int (iI c)] (mM M r) (fun v M2 => M2 = mM M r ∧ ((r.2 = 0 ∧ kK T r.1 = c) ∧ v = some (.int (iI 1)) ∨ ¬ (r.2 = 0 ∧ kK T r.1 = c) ∧ v = some (.int (iI 0)))) := by
  refine ct_in (d := d) kX12_isSign rfl (by decide) (Nat.le_of_ble_eq_true rfl) (by decide) ?_
  show Go (Ct d) _ yX12_isSign cX12_isSign (some .boolean) 0 0 0 [some (.ref 317), some (.int (iI c))] [] (mM M r)
  have hT1 := hT.1
  have ho1 := ho.1
  have ho2 := ho.2.1
  have ho3 := ho.2.2
  have hso := mSo_3 hT ho.1
  have hsr := mSo_r (k := kK T r.1)
  refine r_aload0 (pc2 := 1) dX12_isSign_0 rfl ?_
  refine r_getI (z := r.2) (pc2 := 4) dX12_isSign_1 rfl (Or.inl fX12_182) (hK_317 hS) mM_f ?_
  refine r_ifne (tgt := 39) (pc2 := 7) dX12_isSign_4 rfl (by decide) ⟨by omega, by omega⟩ (fun b_4 => ?_) (fun b_4 => ?_)
  · refine r_iconst (pc2 := 40) dX12_isSign_39 rfl ?_
    refine r_iretz dX12_isSign_40 rfl (by omega) ?_
    exact ⟨rfl, Or.inr ⟨fun q => b_4 q.1, rfl⟩⟩
  · refine r_aload0 (pc2 := 8) dX12_isSign_7 rfl ?_
    refine r_getR (pc2 := 11) dX12_isSign_8 rfl fX12_24 (hK_317 hS) (hR_317_4 hS) ?_
    refine r_aload0 (pc2 := 12) dX12_isSign_11 rfl ?_
    refine r_getI (z := ((r.1 : Nat) : Int)) (pc2 := 15) dX12_isSign_12 rfl (Or.inl fX12_179) (hK_317 hS) mM_t ?_
    refine r_iald (z := (mSo (kK T r.1))) (pc2 := 16) dX12_isSign_15 rfl (hK_319 hS) (r.1) rfl (by omega) (by rw [mM_c (by decide)]; exact (hC.1 r.1 ho.1).1) ?_
    refine r_iconst (pc2 := 17) dX12_isSign_16 rfl ?_
    refine r_icne (tgt := 39) (pc2 := 20) dX12_isSign_17 rfl (by decide) ⟨by omega, by omega⟩ ⟨by omega, by omega⟩ (fun b_17 => ?_) (fun b_17 => ?_)
    · refine r_iconst (pc2 := 40) dX12_isSign_39 rfl ?_
      refine r_iretz dX12_isSign_40 rfl (by omega) ?_
      exact ⟨rfl, Or.inr ⟨fun q => by omega, rfl⟩⟩
    · refine r_aload0 (pc2 := 21) dX12_isSign_20 rfl ?_
      refine r_getR (pc2 := 24) dX12_isSign_21 rfl fX12_30 (hK_317 hS) (hR_317_6 hS) ?_
      refine r_aload0 (pc2 := 25) dX12_isSign_24 rfl ?_
      refine r_getI (z := ((r.1 : Nat) : Int)) (pc2 := 28) dX12_isSign_25 rfl (Or.inl fX12_179) (hK_317 hS) mM_t ?_
      refine r_lald (z := ((mM M r).2.2 321 (r.1))) (pc2 := 29) dX12_isSign_28 rfl (hK_321 hS) (r.1) rfl (by omega) rfl ?_
      refine r_iload1 (pc2 := 30) dX12_isSign_29 rfl ?_
      refine r_i2l (pc2 := 31) dX12_isSign_30 rfl ⟨by omega, by omega⟩ ?_
      refine r_lcmp (pc2 := 32) dX12_isSign_31 rfl ?_
      have lr31 := lcm_r (((mM M r).2.2 321 (r.1))) (jL c)
      rw [lg_iI]
      refine r_ifne (tgt := 39) (pc2 := 35) dX12_isSign_32 rfl (by decide) ⟨by omega, by omega⟩ (fun b_32 => ?_) (fun b_32 => ?_)
      · refine r_iconst (pc2 := 40) dX12_isSign_39 rfl ?_
        refine r_iretz dX12_isSign_40 rfl (by omega) ?_
        have hl := K_lt hT ho.1 (by omega)
        have hv : (mM M r).2.2 321 (r.1) = jL (kK T r.1) := hC.2.2.2 r.1 hl (by omega)
        rw [hv] at lr31
        have hkr := kK_r hT ho.1
        have hq : jL (kK T r.1) = jL c ↔ kK T r.1 = c := ⟨fun e => by rw [jL_lN (by omega), jL_lN (by omega)] at e; have := lN_inj (by omega) (by omega) e; omega, fun e => by rw [e]⟩
        rw [hv] at b_32
        exact ⟨rfl, Or.inr ⟨fun q => b_32 (lr31.2.2.mpr (hq.mpr q.2)), rfl⟩⟩
      · refine r_iconst (pc2 := 36) dX12_isSign_35 rfl ?_
        refine r_goto (tgt := 40) dX12_isSign_36 (by decide) ?_
        refine r_iretz dX12_isSign_40 rfl (by omega) ?_
        have hl := K_lt hT ho.1 (by omega)
        have hv : (mM M r).2.2 321 (r.1) = jL (kK T r.1) := hC.2.2.2 r.1 hl (by omega)
        rw [hv] at lr31
        have hkr := kK_r hT ho.1
        have hq : jL (kK T r.1) = jL c ↔ kK T r.1 = c := ⟨fun e => by rw [jL_lN (by omega), jL_lN (by omega)] at e; have := lN_inj (by omega) (by omega) e; omega, fun e => by rw [e]⟩
        rw [hv] at b_32
        exact ⟨rfl, Or.inl ⟨⟨by omega, hq.mp (lr31.2.2.mp (by omega))⟩, rfl⟩⟩
set_option maxHeartbeats 4000000 in
theorem c_X12_isWord {d : Nat} {M : pM} {T : tD} {r : rdT} {w : Nat} (hS : sOk M.1) (hT : tOk T) (hC : mT M T) (ho : rOk T r) (hW : mWd M) (hw : w < 17) : Ct (d + 1) 0 0 yX12_isWord [.ref 317, .int (iI ((w : Nat) : Int))] (mM M r) (fun v M2 => M2 = mM M r ∧ ((r.2 = 0 ∧ kK T r.1 = ((pw w : Nat) : Int)) ∧ v = some (.int (iI 1)) ∨ ¬ (r.2 = 0 ∧ kK T r.1 = ((pw w : Nat) : Int)) ∧ v = some (.int (iI 0)))) := by
  refine ct_in (d := d) kX12_isWord rfl (by decide) (Nat.le_of_ble_eq_true rfl) (by decide) ?_
  show Go (Ct d) _ yX12_isWord cX12_isWord (some .boolean) 0 0 0 [some (.ref 317), some (.int (iI ((w : Nat) : Int)))] [] (mM M r)
  have hT1 := hT.1
  have ho1 := ho.1
  have ho2 := ho.2.1
  have ho3 := ho.2.2
  have hso := mSo_3 hT ho.1
  have hsr := mSo_r (k := kK T r.1)
  have hpw := pw_r hw
  have hww : (mM M r).2.2 322 w = lN (m37 8 (kwI (pw w))) := hW w hw
  refine r_aload0 (pc2 := 1) dX12_isWord_0 rfl ?_
  refine r_getI (z := r.2) (pc2 := 4) dX12_isWord_1 rfl (Or.inl fX12_182) (hK_317 hS) mM_f ?_
  refine r_ifne (tgt := 43) (pc2 := 7) dX12_isWord_4 rfl (by decide) ⟨by omega, by omega⟩ (fun b_4 => ?_) (fun b_4 => ?_)
  · refine r_iconst (pc2 := 44) dX12_isWord_43 rfl ?_
    refine r_iretz dX12_isWord_44 rfl (by omega) ?_
    exact ⟨rfl, Or.inr ⟨fun q => b_4 q.1, rfl⟩⟩
  · refine r_aload0 (pc2 := 8) dX12_isWord_7 rfl ?_
    refine r_getR (pc2 := 11) dX12_isWord_8 rfl fX12_24 (hK_317 hS) (hR_317_4 hS) ?_
    refine r_aload0 (pc2 := 12) dX12_isWord_11 rfl ?_
    refine r_getI (z := ((r.1 : Nat) : Int)) (pc2 := 15) dX12_isWord_12 rfl (Or.inl fX12_179) (hK_317 hS) mM_t ?_
    refine r_iald (z := (mSo (kK T r.1))) (pc2 := 16) dX12_isWord_15 rfl (hK_319 hS) (r.1) rfl (by omega) (by rw [mM_c (by decide)]; exact (hC.1 r.1 ho.1).1) ?_
    refine r_iconst (pc2 := 17) dX12_isWord_16 rfl ?_
    refine r_icne (tgt := 43) (pc2 := 20) dX12_isWord_17 rfl (by decide) ⟨by omega, by omega⟩ ⟨by omega, by omega⟩ (fun b_17 => ?_) (fun b_17 => ?_)
    · refine r_iconst (pc2 := 44) dX12_isWord_43 rfl ?_
      refine r_iretz dX12_isWord_44 rfl (by omega) ?_
      exact ⟨rfl, Or.inr ⟨fun q => b_17 (hso.2.1.mpr (by unfold isW; omega)), rfl⟩⟩
    · refine r_aload0 (pc2 := 21) dX12_isWord_20 rfl ?_
      refine r_getR (pc2 := 24) dX12_isWord_21 rfl fX12_30 (hK_317 hS) (hR_317_6 hS) ?_
      refine r_aload0 (pc2 := 25) dX12_isWord_24 rfl ?_
      refine r_getI (z := ((r.1 : Nat) : Int)) (pc2 := 28) dX12_isWord_25 rfl (Or.inl fX12_179) (hK_317 hS) mM_t ?_
      refine r_lald (z := ((mM M r).2.2 321 (r.1))) (pc2 := 29) dX12_isWord_28 rfl (hK_321 hS) (r.1) rfl (by omega) rfl ?_
      refine r_aload0 (pc2 := 30) dX12_isWord_29 rfl ?_
      refine r_getR (pc2 := 33) dX12_isWord_30 rfl fX12_68 (hK_317 hS) (hR_317_9 hS) ?_
      refine r_iload1 (pc2 := 34) dX12_isWord_33 rfl ?_
      refine r_lald (z := (lN (m37 8 (kwI (pw w))))) (pc2 := 35) dX12_isWord_34 rfl (hK_322 hS) w rfl (by omega) hww ?_
      refine r_lcmp (pc2 := 36) dX12_isWord_35 rfl ?_
      have lr35 := lcm_r (((mM M r).2.2 321 (r.1))) ((lN (m37 8 (kwI (pw w)))))
      rw [lg_iI]
      refine r_ifne (tgt := 43) (pc2 := 39) dX12_isWord_36 rfl (by decide) ⟨by omega, by omega⟩ (fun b_36 => ?_) (fun b_36 => ?_)
      · refine r_iconst (pc2 := 44) dX12_isWord_43 rfl ?_
        refine r_iretz dX12_isWord_44 rfl (by omega) ?_
        have hiw := hso.2.1.mp (by omega)
        have hl := K_lt hT ho.1 (by unfold isW at hiw; omega)
        have hv : (mM M r).2.2 321 (r.1) = lN (m37 8 (kI T r.1)) := hC.2.2.1 r.1 hl hiw
        have hid := hT.2.2.2.2.2.1 r.1 hl hiw
        have hq := (hid.1.key (kw_v (pw w) hpw.1 hpw.2)).2
        have hk := wKd_k (x := kI T r.1) hpw.1 hpw.2
        rw [hv] at lr35 b_36
        exact ⟨rfl, Or.inr ⟨fun q => b_36 (lr35.2.2.mpr (hq.mpr (hk.mp (hid.2.symm.trans q.2)))), rfl⟩⟩
      · refine r_iconst (pc2 := 40) dX12_isWord_39 rfl ?_
        refine r_goto (tgt := 44) dX12_isWord_40 (by decide) ?_
        refine r_iretz dX12_isWord_44 rfl (by omega) ?_
        have hiw := hso.2.1.mp (by omega)
        have hl := K_lt hT ho.1 (by unfold isW at hiw; omega)
        have hv : (mM M r).2.2 321 (r.1) = lN (m37 8 (kI T r.1)) := hC.2.2.1 r.1 hl hiw
        have hid := hT.2.2.2.2.2.1 r.1 hl hiw
        have hq := (hid.1.key (kw_v (pw w) hpw.1 hpw.2)).2
        have hk := wKd_k (x := kI T r.1) hpw.1 hpw.2
        rw [hv] at lr35 b_36
        exact ⟨rfl, Or.inl ⟨⟨by omega, hid.2.trans (hk.mpr (hq.mp (lr35.2.2.mp (by omega))))⟩, rfl⟩⟩
set_option maxHeartbeats 4000000 in
theorem c_X12_takeSign {d : Nat} {M : pM} {T : tD} {r : rdT} {c : Int} (hS : sOk M.1) (hT : tOk T) (hC : mT M T) (ho : rOk T r) (hc : 40 ≤ c ∧ c ≤ 59) : Ct (d + 2) 0 0 yX12_takeSign [.ref 317, .int (iI c)] (mM M r) (fun v M2 => v = none ∧ M2 = mM M (rK T c r)) := by
  refine ct_in (d := (d + 1)) kX12_takeSign rfl (by decide) (Nat.le_of_ble_eq_true rfl) (by decide) ?_
  show Go (Ct (d + 1)) _ yX12_takeSign cX12_takeSign none 0 0 0 [some (.ref 317), some (.int (iI c))] [] (mM M r)
  have hT1 := hT.1
  have ho1 := ho.1
  have ho2 := ho.2.1
  have ho3 := ho.2.2
  have hso := mSo_3 hT ho.1
  have hsr := mSo_r (k := kK T r.1)
  refine r_aload0 (pc2 := 1) dX12_takeSign_0 rfl ?_
  refine r_iload1 (pc2 := 2) dX12_takeSign_1 rfl ?_
  refine r_cv1 (pc2 := 5) dX12_takeSign_2 rfl vX12_185 (hK_317 hS) (by decide) (c_X12_isSign (d := d) (M := M) (r := r) (c := c) hS hT hC ho hc) ?_
  rintro _ M9 ⟨h9, ⟨hq, rfl⟩ | ⟨hq, rfl⟩⟩
  · rw [h9]
    show Go (Ct (d + 1)) _ yX12_takeSign cX12_takeSign none 0 0 5 [some (.ref 317), some (.int (iI c))] [.int (iI 1)] (mM M r)
    refine r_ifeq (tgt := 21) (pc2 := 8) dX12_takeSign_5 rfl (by decide) ⟨by omega, by omega⟩ (fun h9 => absurd h9 (by decide)) (fun _ => ?_)
    refine r_aload0 (pc2 := 9) dX12_takeSign_8 rfl ?_
    refine r_dup (pc2 := 10) dX12_takeSign_9 rfl rfl ?_
    refine r_getI (z := ((r.1 : Nat) : Int)) (pc2 := 13) dX12_takeSign_10 rfl (Or.inl fX12_179) (hK_317 hS) mM_t ?_
    refine r_iconst (pc2 := 14) dX12_takeSign_13 rfl ?_
    refine r_iadd (c := (((r.1 + 1) : Nat) : Int)) (pc2 := 15) dX12_takeSign_14 rfl (by omega) ?_
    refine r_putI (z := (((r.1 + 1) : Nat) : Int)) (pc2 := 18) dX12_takeSign_15 rfl fX12_179 (w12_7 _) (hK_317 hS) (by decide) ?_
    refine r_goto (tgt := 26) dX12_takeSign_18 (by decide) ?_
    refine r_ret dX12_takeSign_26 rfl ?_
    refine ⟨rfl, ?_⟩
    have hl := K_lt hT ho.1 (by omega)
    rw [rK, if_pos hq.2, av_y hq.1 hl, mM_a, hq.1]
  · rw [h9]
    show Go (Ct (d + 1)) _ yX12_takeSign cX12_takeSign none 0 0 5 [some (.ref 317), some (.int (iI c))] [.int (iI 0)] (mM M r)
    refine r_ifeq (tgt := 21) (pc2 := 8) dX12_takeSign_5 rfl (by decide) ⟨by omega, by omega⟩ (fun _ => ?_) (fun h9 => absurd h9 (by decide))
    refine r_aload0 (pc2 := 22) dX12_takeSign_21 rfl ?_
    refine r_iconst (pc2 := 23) dX12_takeSign_22 rfl ?_
    refine r_cv1 (pc2 := 26) dX12_takeSign_23 rfl vX12_188 (hK_317 hS) (by decide) (c_X12_wrong (d := d) (M := M) (r := r) (w := 1) hS hT hC ho (by omega)) ?_
    rintro _ M9 ⟨rfl, h9⟩
    rw [h9]
    show Go (Ct (d + 1)) _ yX12_takeSign cX12_takeSign none 0 0 26 [some (.ref 317), some (.int (iI c))] [] (mM M (fl T 1 r))
    refine r_ret dX12_takeSign_26 rfl ?_
    refine ⟨rfl, ?_⟩
    by_cases h0 : r.2 = 0
    · rw [rK, if_neg (fun e => hq ⟨h0, e⟩), av_n (fl_f (by omega) ho2)]
    · rw [rK_n h0, fl_n h0]
set_option maxHeartbeats 4000000 in
theorem c_X12_hasSign {d : Nat} {M : pM} {T : tD} {r : rdT} {c : Int} (hS : sOk M.1) (hT : tOk T) (hC : mT M T) (ho : rOk T r) (hc : 40 ≤ c ∧ c ≤ 59) : Ct (d + 2) 0 0 yX12_hasSign [.ref 317, .int (iI c)] (mM M r) (fun v M2 => M2 = mM M (if r.2 = 0 ∧ kK T r.1 = c then av T r else r) ∧ ((r.2 = 0 ∧ kK T r.1 = c) ∧ v = some (.int (iI 1)) ∨ ¬ (r.2 = 0 ∧ kK T r.1 = c) ∧ v = some (.int (iI 0)))) := by
  refine ct_in (d := (d + 1)) kX12_hasSign rfl (by decide) (Nat.le_of_ble_eq_true rfl) (by decide) ?_
  show Go (Ct (d + 1)) _ yX12_hasSign cX12_hasSign (some .boolean) 0 0 0 [some (.ref 317), some (.int (iI c)), none] [] (mM M r)
  have hT1 := hT.1
  have ho1 := ho.1
  have ho2 := ho.2.1
  have ho3 := ho.2.2
  have hso := mSo_3 hT ho.1
  have hsr := mSo_r (k := kK T r.1)
  refine r_aload0 (pc2 := 1) dX12_hasSign_0 rfl ?_
  refine r_iload1 (pc2 := 2) dX12_hasSign_1 rfl ?_
  refine r_cv1 (pc2 := 5) dX12_hasSign_2 rfl vX12_185 (hK_317 hS) (by decide) (c_X12_isSign (d := d) (M := M) (r := r) (c := c) hS hT hC ho hc) ?_
  rintro _ M9 ⟨h9, ⟨hq, rfl⟩ | ⟨hq, rfl⟩⟩
  · rw [h9]
    show Go (Ct (d + 1)) _ yX12_hasSign cX12_hasSign (some .boolean) 0 0 5 [some (.ref 317), some (.int (iI c)), none] [.int (iI 1)] (mM M r)
    refine r_istore2 (pc2 := 6) dX12_hasSign_5 rfl rfl ?_
    refine r_aload0 (pc2 := 7) dX12_hasSign_6 rfl ?_
    refine r_dup (pc2 := 8) dX12_hasSign_7 rfl rfl ?_
    refine r_getI (z := ((r.1 : Nat) : Int)) (pc2 := 11) dX12_hasSign_8 rfl (Or.inl fX12_179) (hK_317 hS) mM_t ?_
    refine r_iload2 (pc2 := 12) dX12_hasSign_11 rfl ?_
    refine r_ifeq (tgt := 19) (pc2 := 15) dX12_hasSign_12 rfl (by decide) ⟨by omega, by omega⟩ (fun h9 => absurd h9 (by decide)) (fun _ => ?_)
    refine r_iconst (pc2 := 16) dX12_hasSign_15 rfl ?_
    refine r_goto (tgt := 20) dX12_hasSign_16 (by decide) ?_
    refine r_iadd (c := (((r.1 + 1) : Nat) : Int)) (pc2 := 21) dX12_hasSign_20 rfl (by omega) ?_
    refine r_putI (z := (((r.1 + 1) : Nat) : Int)) (pc2 := 24) dX12_hasSign_21 rfl fX12_179 (w12_7 _) (hK_317 hS) (by decide) ?_
    refine r_iload2 (pc2 := 25) dX12_hasSign_24 rfl ?_
    refine r_iretz dX12_hasSign_25 rfl (by omega) ?_
    refine ⟨?_, Or.inl ⟨hq, rfl⟩⟩
    have hl := K_lt hT ho.1 (by omega)
    rw [if_pos hq, av_y hq.1 hl, mM_a, hq.1]
  · rw [h9]
    show Go (Ct (d + 1)) _ yX12_hasSign cX12_hasSign (some .boolean) 0 0 5 [some (.ref 317), some (.int (iI c)), none] [.int (iI 0)] (mM M r)
    refine r_istore2 (pc2 := 6) dX12_hasSign_5 rfl rfl ?_
    refine r_aload0 (pc2 := 7) dX12_hasSign_6 rfl ?_
    refine r_dup (pc2 := 8) dX12_hasSign_7 rfl rfl ?_
    refine r_getI (z := ((r.1 : Nat) : Int)) (pc2 := 11) dX12_hasSign_8 rfl (Or.inl fX12_179) (hK_317 hS) mM_t ?_
    refine r_iload2 (pc2 := 12) dX12_hasSign_11 rfl ?_
    refine r_ifeq (tgt := 19) (pc2 := 15) dX12_hasSign_12 rfl (by decide) ⟨by omega, by omega⟩ (fun _ => ?_) (fun h9 => absurd h9 (by decide))
    refine r_iconst (pc2 := 20) dX12_hasSign_19 rfl ?_
    refine r_iadd (c := ((r.1 : Nat) : Int)) (pc2 := 21) dX12_hasSign_20 rfl (by omega) ?_
    refine r_putI (z := ((r.1 : Nat) : Int)) (pc2 := 24) dX12_hasSign_21 rfl fX12_179 (w12_7 _) (hK_317 hS) (by decide) ?_
    refine r_iload2 (pc2 := 25) dX12_hasSign_24 rfl ?_
    refine r_iretz dX12_hasSign_25 rfl (by omega) ?_
    refine ⟨?_, Or.inr ⟨hq, rfl⟩⟩
    rw [if_neg hq]
    exact pI_self rfl
set_option maxHeartbeats 4000000 in
theorem c_X12_hasWord {d : Nat} {M : pM} {T : tD} {r : rdT} {w : Nat} (hS : sOk M.1) (hT : tOk T) (hC : mT M T) (ho : rOk T r) (hW : mWd M) (hw : w < 17) : Ct (d + 2) 0 0 yX12_hasWord [.ref 317, .int (iI ((w : Nat) : Int))] (mM M r) (fun v M2 => M2 = mM M (if r.2 = 0 ∧ kK T r.1 = ((pw w : Nat) : Int) then av T r else r) ∧ ((r.2 = 0 ∧ kK T r.1 = ((pw w : Nat) : Int)) ∧ v = some (.int (iI 1)) ∨ ¬ (r.2 = 0 ∧ kK T r.1 = ((pw w : Nat) : Int)) ∧ v = some (.int (iI 0)))) := by
  refine ct_in (d := (d + 1)) kX12_hasWord rfl (by decide) (Nat.le_of_ble_eq_true rfl) (by decide) ?_
  show Go (Ct (d + 1)) _ yX12_hasWord cX12_hasWord (some .boolean) 0 0 0 [some (.ref 317), some (.int (iI ((w : Nat) : Int))), none] [] (mM M r)
  have hT1 := hT.1
  have ho1 := ho.1
  have ho2 := ho.2.1
  have ho3 := ho.2.2
  have hso := mSo_3 hT ho.1
  have hsr := mSo_r (k := kK T r.1)
  refine r_aload0 (pc2 := 1) dX12_hasWord_0 rfl ?_
  refine r_iload1 (pc2 := 2) dX12_hasWord_1 rfl ?_
  refine r_cv1 (pc2 := 5) dX12_hasWord_2 rfl vX12_192 (hK_317 hS) (by decide) (c_X12_isWord (d := d) (M := M) (r := r) (w := w) hS hT hC ho hW hw) ?_
  rintro _ M9 ⟨h9, ⟨hq, rfl⟩ | ⟨hq, rfl⟩⟩
  · rw [h9]
    show Go (Ct (d + 1)) _ yX12_hasWord cX12_hasWord (some .boolean) 0 0 5 [some (.ref 317), some (.int (iI ((w : Nat) : Int))), none] [.int (iI 1)] (mM M r)
    refine r_istore2 (pc2 := 6) dX12_hasWord_5 rfl rfl ?_
    refine r_aload0 (pc2 := 7) dX12_hasWord_6 rfl ?_
    refine r_dup (pc2 := 8) dX12_hasWord_7 rfl rfl ?_
    refine r_getI (z := ((r.1 : Nat) : Int)) (pc2 := 11) dX12_hasWord_8 rfl (Or.inl fX12_179) (hK_317 hS) mM_t ?_
    refine r_iload2 (pc2 := 12) dX12_hasWord_11 rfl ?_
    refine r_ifeq (tgt := 19) (pc2 := 15) dX12_hasWord_12 rfl (by decide) ⟨by omega, by omega⟩ (fun h9 => absurd h9 (by decide)) (fun _ => ?_)
    refine r_iconst (pc2 := 16) dX12_hasWord_15 rfl ?_
    refine r_goto (tgt := 20) dX12_hasWord_16 (by decide) ?_
    refine r_iadd (c := (((r.1 + 1) : Nat) : Int)) (pc2 := 21) dX12_hasWord_20 rfl (by omega) ?_
    refine r_putI (z := (((r.1 + 1) : Nat) : Int)) (pc2 := 24) dX12_hasWord_21 rfl fX12_179 (w12_7 _) (hK_317 hS) (by decide) ?_
    refine r_iload2 (pc2 := 25) dX12_hasWord_24 rfl ?_
    refine r_iretz dX12_hasWord_25 rfl (by omega) ?_
    refine ⟨?_, Or.inl ⟨hq, rfl⟩⟩
    have hpw := pw_r hw
    have hl := K_lt hT ho.1 (by omega)
    rw [if_pos hq, av_y hq.1 hl, mM_a, hq.1]
  · rw [h9]
    show Go (Ct (d + 1)) _ yX12_hasWord cX12_hasWord (some .boolean) 0 0 5 [some (.ref 317), some (.int (iI ((w : Nat) : Int))), none] [.int (iI 0)] (mM M r)
    refine r_istore2 (pc2 := 6) dX12_hasWord_5 rfl rfl ?_
    refine r_aload0 (pc2 := 7) dX12_hasWord_6 rfl ?_
    refine r_dup (pc2 := 8) dX12_hasWord_7 rfl rfl ?_
    refine r_getI (z := ((r.1 : Nat) : Int)) (pc2 := 11) dX12_hasWord_8 rfl (Or.inl fX12_179) (hK_317 hS) mM_t ?_
    refine r_iload2 (pc2 := 12) dX12_hasWord_11 rfl ?_
    refine r_ifeq (tgt := 19) (pc2 := 15) dX12_hasWord_12 rfl (by decide) ⟨by omega, by omega⟩ (fun _ => ?_) (fun h9 => absurd h9 (by decide))
    refine r_iconst (pc2 := 20) dX12_hasWord_19 rfl ?_
    refine r_iadd (c := ((r.1 : Nat) : Int)) (pc2 := 21) dX12_hasWord_20 rfl (by omega) ?_
    refine r_putI (z := ((r.1 : Nat) : Int)) (pc2 := 24) dX12_hasWord_21 rfl fX12_179 (w12_7 _) (hK_317 hS) (by decide) ?_
    refine r_iload2 (pc2 := 25) dX12_hasWord_24 rfl ?_
    refine r_iretz dX12_hasWord_25 rfl (by omega) ?_
    refine ⟨?_, Or.inr ⟨hq, rfl⟩⟩
    rw [if_neg hq]
    exact pI_self rfl
set_option maxHeartbeats 4000000 in
theorem c_X12_takeWord {d : Nat} {M : pM} {T : tD} {r : rdT}  (hS : sOk M.1) (hT : tOk T) (hC : mT M T) (ho : rOk T r) (hW : mWd M) : Ct (d + 3) 0 0 yX12_takeWord [.ref 317, .int (iI 7)] (mM M r) (fun v M2 => v = none ∧ M2 = mM M (rK T 17 r)) := by
  refine ct_in (d := (d + 2)) kX12_takeWord rfl (by decide) (Nat.le_of_ble_eq_true rfl) (by decide) ?_
  show Go (Ct (d + 2)) _ yX12_takeWord cX12_takeWord none 0 0 0 [some (.ref 317), some (.int (iI 7))] [] (mM M r)
  have hT1 := hT.1
  have ho1 := ho.1
  have ho2 := ho.2.1
  have ho3 := ho.2.2
  have hso := mSo_3 hT ho.1
  have hsr := mSo_r (k := kK T r.1)
  refine r_aload0 (pc2 := 1) dX12_takeWord_0 rfl ?_
  refine r_iload1 (pc2 := 2) dX12_takeWord_1 rfl ?_
  refine r_cv1 (pc2 := 5) dX12_takeWord_2 rfl vX12_195 (hK_317 hS) (by decide) (c_X12_hasWord (d := d) (M := M) (r := r) (w := 7) hS hT hC ho hW (by decide)) ?_
  rintro _ M9 ⟨h9, ⟨hq, rfl⟩ | ⟨hq, rfl⟩⟩
  · rw [if_pos hq] at h9
    rw [h9]
    show Go (Ct (d + 2)) _ yX12_takeWord cX12_takeWord none 0 0 5 [some (.ref 317), some (.int (iI 7))] [.int (iI 1)] (mM M (av T r))
    refine r_ifne (tgt := 13) (pc2 := 8) dX12_takeWord_5 rfl (by decide) ⟨by omega, by omega⟩ (fun _ => ?_) (fun h9 => absurd h9 (by decide))
    refine r_ret dX12_takeWord_13 rfl ?_
    rw [show ((pw 7 : Nat) : Int) = 17 from rfl] at hq
    exact ⟨rfl, by rw [rK, if_pos hq.2]⟩
  · rw [if_neg hq] at h9
    rw [h9]
    show Go (Ct (d + 2)) _ yX12_takeWord cX12_takeWord none 0 0 5 [some (.ref 317), some (.int (iI 7))] [.int (iI 0)] (mM M r)
    refine r_ifne (tgt := 13) (pc2 := 8) dX12_takeWord_5 rfl (by decide) ⟨by omega, by omega⟩ (fun h9 => absurd h9 (by decide)) (fun _ => ?_)
    refine r_aload0 (pc2 := 9) dX12_takeWord_8 rfl ?_
    refine r_iconst (pc2 := 10) dX12_takeWord_9 rfl ?_
    refine r_cv1 (pc2 := 13) dX12_takeWord_10 rfl vX12_188 (hK_317 hS) (by decide) (c_X12_wrong (d := d + 1) (M := M) (r := r) (w := 1) hS hT hC ho (by omega)) ?_
    rintro _ M9 ⟨rfl, h9⟩
    rw [h9]
    show Go (Ct (d + 2)) _ yX12_takeWord cX12_takeWord none 0 0 13 [some (.ref 317), some (.int (iI 7))] [] (mM M (fl T 1 r))
    refine r_ret dX12_takeWord_13 rfl ?_
    rw [show ((pw 7 : Nat) : Int) = 17 from rfl] at hq
    refine ⟨rfl, ?_⟩
    by_cases h0 : r.2 = 0
    · rw [rK, if_neg (fun e => hq ⟨h0, e⟩), av_n (fl_f (by omega) ho2)]
    · rw [rK_n h0, fl_n h0]
theorem rN_19 {T : tD} {lo hi : Int} {r : rdT} (h0 : r.2 = 0) (hk : kK T r.1 = 19) (hg : lo ≤ ((kV T r.1 : Nat) : Int) ∧ ((kV T r.1 : Nat) : Int) ≤ hi) (hl : r.1 < T.1) : rN T lo hi r = (r.1 + 1, 0) := by rw [rN, if_pos hk, if_neg (by omega), av_y h0 hl]
theorem rN_4 {T : tD} {lo hi : Int} {r : rdT} (ho : 0 ≤ r.2) (hk : kK T r.1 = 19) (hg : ((kV T r.1 : Nat) : Int) < lo ∨ hi < ((kV T r.1 : Nat) : Int)) : rN T lo hi r = fl T 4 r := by rw [rN, if_pos hk, if_pos hg, av_n (fl_f (by omega) ho)]
theorem rN_1 {T : tD} {lo hi : Int} {r : rdT} (ho : 0 ≤ r.2) (hk : ¬ kK T r.1 = 19) : rN T lo hi r = fl T 1 r := by rw [rN, if_neg hk, av_n (fl_f (by omega) ho)]
set_option maxHeartbeats 4000000 in
theorem c_X12_takeNumber {d : Nat} {M : pM} {T : tD} {r : rdT} {lo hi : Int} (hS : sOk M.1) (hT : tOk T) (hC : mT M T) (ho : rOk T r) (hlo : inR lo) (hhi : inR hi) : Ct (d + 2) 0 0 yX12_takeNumber [.ref 317, .int (iI lo), .int (iI hi)] (mM M r) (fun v M2 => ∃ z, inR z ∧ v = some (.int (iI z)) ∧ M2 = mM M (rN T lo hi r) ∧ ((rN T lo hi r).2 = 0 → z = ((kV T r.1 : Nat) : Int))) := by
  refine ct_in (d := (d + 1)) kX12_takeNumber rfl (by decide) (Nat.le_of_ble_eq_true rfl) (by decide) ?_
  show Go (Ct (d + 1)) _ yX12_takeNumber cX12_takeNumber (some .int) 0 0 0 [some (.ref 317), some (.int (iI lo)), some (.int (iI hi))] [] (mM M r)
  have hT1 := hT.1
  have ho1 := ho.1
  have ho2 := ho.2.1
  have ho3 := ho.2.2
  have hso := mSo_3 hT ho.1
  have hsr := mSo_r (k := kK T r.1)
  obtain ⟨lo1, lo2⟩ := hlo
  obtain ⟨hi1, hi2⟩ := hhi
  refine r_aload0 (pc2 := 1) dX12_takeNumber_0 rfl ?_
  refine r_getI (z := r.2) (pc2 := 4) dX12_takeNumber_1 rfl (Or.inl fX12_182) (hK_317 hS) mM_f ?_
  refine r_ifne (tgt := 28) (pc2 := 7) dX12_takeNumber_4 rfl (by decide) ⟨by omega, by omega⟩ (fun b_4 => ?_) (fun b_4 => ?_)
  · refine r_aload0 (pc2 := 29) dX12_takeNumber_28 rfl ?_
    refine r_getI (z := r.2) (pc2 := 32) dX12_takeNumber_29 rfl (Or.inl fX12_182) (hK_317 hS) mM_f ?_
    refine r_ifne (tgt := 70) (pc2 := 35) dX12_takeNumber_32 rfl (by decide) ⟨by omega, by omega⟩ (fun b_32 => ?_) (fun b_32 => ?_)
    · refine r_aload0 (pc2 := 71) dX12_takeNumber_70 rfl ?_
      refine r_getI (z := r.2) (pc2 := 74) dX12_takeNumber_71 rfl (Or.inl fX12_182) (hK_317 hS) mM_f ?_
      refine r_ifle (tgt := 79) (pc2 := 77) dX12_takeNumber_74 rfl (by decide) ⟨by omega, by omega⟩ (fun b_74 => ?_) (fun b_74 => ?_)
      · exact absurd b_4 (by omega)
      · refine r_iconst (pc2 := 78) dX12_takeNumber_77 rfl ?_
        refine r_ireti dX12_takeNumber_78 rfl ?_
        refine ⟨0, ⟨by omega, by omega⟩, rfl, ?_, fun q => absurd q (by rw [rN_n b_4]; exact b_4)⟩
        rw [rN_n b_4]
    · exact absurd b_32 (by omega)
  · refine r_aload0 (pc2 := 8) dX12_takeNumber_7 rfl ?_
    refine r_getR (pc2 := 11) dX12_takeNumber_8 rfl fX12_24 (hK_317 hS) (hR_317_4 hS) ?_
    refine r_aload0 (pc2 := 12) dX12_takeNumber_11 rfl ?_
    refine r_getI (z := ((r.1 : Nat) : Int)) (pc2 := 15) dX12_takeNumber_12 rfl (Or.inl fX12_179) (hK_317 hS) mM_t ?_
    refine r_iald (z := (mSo (kK T r.1))) (pc2 := 16) dX12_takeNumber_15 rfl (hK_319 hS) (r.1) rfl (by omega) (by rw [mM_c (by decide)]; exact (hC.1 r.1 ho.1).1) ?_
    refine r_iconst (pc2 := 17) dX12_takeNumber_16 rfl ?_
    refine r_iceq (tgt := 28) (pc2 := 20) dX12_takeNumber_17 rfl (by decide) ⟨by omega, by omega⟩ ⟨by omega, by omega⟩ (fun b_17 => ?_) (fun b_17 => ?_)
    · refine r_aload0 (pc2 := 29) dX12_takeNumber_28 rfl ?_
      refine r_getI (z := r.2) (pc2 := 32) dX12_takeNumber_29 rfl (Or.inl fX12_182) (hK_317 hS) mM_f ?_
      refine r_ifne (tgt := 70) (pc2 := 35) dX12_takeNumber_32 rfl (by decide) ⟨by omega, by omega⟩ (fun b_32 => ?_) (fun b_32 => ?_)
      · refine r_aload0 (pc2 := 71) dX12_takeNumber_70 rfl ?_
        refine r_getI (z := r.2) (pc2 := 74) dX12_takeNumber_71 rfl (Or.inl fX12_182) (hK_317 hS) mM_f ?_
        refine r_ifle (tgt := 79) (pc2 := 77) dX12_takeNumber_74 rfl (by decide) ⟨by omega, by omega⟩ (fun b_74 => ?_) (fun b_74 => ?_)
        · exact absurd b_4 b_32
        · refine r_iconst (pc2 := 78) dX12_takeNumber_77 rfl ?_
          refine r_ireti dX12_takeNumber_78 rfl ?_
          exact absurd b_4 b_32
      · have hk : kK T r.1 = 19 := hso.2.2.1.mp (by omega)
        have hlt := K_lt hT ho.1 (by omega)
        have hv9 : kV T r.1 ≤ 999 := hT.2.2.2.2.1 r.1 hlt hk
        have hv : (mM M r).2.2 321 r.1 = lN (kV T r.1) := hC.2.1 r.1 hlt hk
        have hcl := lN_cmp (n := kV T r.1) (b := lo) (by omega) ⟨lo1, lo2⟩
        have hch := lN_cmp (n := kV T r.1) (b := hi) (by omega) ⟨hi1, hi2⟩
        refine r_aload0 (pc2 := 36) dX12_takeNumber_35 rfl ?_
        refine r_getR (pc2 := 39) dX12_takeNumber_36 rfl fX12_30 (hK_317 hS) (hR_317_6 hS) ?_
        refine r_aload0 (pc2 := 40) dX12_takeNumber_39 rfl ?_
        refine r_getI (z := ((r.1 : Nat) : Int)) (pc2 := 43) dX12_takeNumber_40 rfl (Or.inl fX12_179) (hK_317 hS) mM_t ?_
        refine r_lald (z := (lN (kV T r.1))) (pc2 := 44) dX12_takeNumber_43 rfl (hK_321 hS) (r.1) rfl (by omega) hv ?_
        refine r_iload1 (pc2 := 45) dX12_takeNumber_44 rfl ?_
        refine r_i2l (pc2 := 46) dX12_takeNumber_45 rfl ⟨by omega, by omega⟩ ?_
        refine r_lcmp (pc2 := 47) dX12_takeNumber_46 rfl ?_
        have lr46 := lcm_r ((lN (kV T r.1))) (jL lo)
        rw [lg_iI]
        refine r_iflt (tgt := 65) (pc2 := 50) dX12_takeNumber_47 rfl (by decide) ⟨by omega, by omega⟩ (fun b_47 => ?_) (fun b_47 => ?_)
        · refine r_aload0 (pc2 := 66) dX12_takeNumber_65 rfl ?_
          refine r_iconst (pc2 := 67) dX12_takeNumber_66 rfl ?_
          refine r_cv1 (pc2 := 70) dX12_takeNumber_67 rfl vX12_188 (hK_317 hS) (by decide) (c_X12_wrong (d := d) (M := M) (r := r) (w := 4) hS hT hC ho (by omega)) ?_
          rintro _ M9 ⟨rfl, h9⟩
          rw [h9]
          have hfl := (ho.f hT (w := 4) (by omega) (by omega)).2
          show Go (Ct (d + 1)) _ yX12_takeNumber cX12_takeNumber (some .int) 0 0 70 [some (.ref 317), some (.int (iI lo)), some (.int (iI hi))] [] (mM M (fl T 4 r))
          refine r_aload0 (pc2 := 71) dX12_takeNumber_70 rfl ?_
          refine r_getI (z := (fl T 4 r).2) (pc2 := 74) dX12_takeNumber_71 rfl (Or.inl fX12_182) (hK_317 hS) mM_f ?_
          refine r_ifle (tgt := 79) (pc2 := 77) dX12_takeNumber_74 rfl (by decide) ⟨by omega, by omega⟩ (fun b_74 => ?_) (fun b_74 => ?_)
          · exact absurd b_74 (by have := fl_f (T := T) (w := 4) (r := r) (by omega) ho2; omega)
          · refine r_iconst (pc2 := 78) dX12_takeNumber_77 rfl ?_
            refine r_ireti dX12_takeNumber_78 rfl ?_
            have hb : ((kV T r.1 : Nat) : Int) < lo ∨ hi < ((kV T r.1 : Nat) : Int) := by have := hcl.1; have := hch.2; omega
            refine ⟨0, ⟨by omega, by omega⟩, rfl, ?_, fun q => absurd q (by rw [rN_4 ho2 hk hb]; exact fl_f (by omega) ho2)⟩
            rw [rN_4 ho2 hk hb]
        · refine r_aload0 (pc2 := 51) dX12_takeNumber_50 rfl ?_
          refine r_getR (pc2 := 54) dX12_takeNumber_51 rfl fX12_30 (hK_317 hS) (hR_317_6 hS) ?_
          refine r_aload0 (pc2 := 55) dX12_takeNumber_54 rfl ?_
          refine r_getI (z := ((r.1 : Nat) : Int)) (pc2 := 58) dX12_takeNumber_55 rfl (Or.inl fX12_179) (hK_317 hS) mM_t ?_
          refine r_lald (z := (lN (kV T r.1))) (pc2 := 59) dX12_takeNumber_58 rfl (hK_321 hS) (r.1) rfl (by omega) hv ?_
          refine r_iload2 (pc2 := 60) dX12_takeNumber_59 rfl ?_
          refine r_i2l (pc2 := 61) dX12_takeNumber_60 rfl ⟨by omega, by omega⟩ ?_
          refine r_lcmp (pc2 := 62) dX12_takeNumber_61 rfl ?_
          have lr61 := lcm_r ((lN (kV T r.1))) (jL hi)
          rw [lg_iI]
          refine r_ifle (tgt := 70) (pc2 := 65) dX12_takeNumber_62 rfl (by decide) ⟨by omega, by omega⟩ (fun b_62 => ?_) (fun b_62 => ?_)
          · refine r_aload0 (pc2 := 71) dX12_takeNumber_70 rfl ?_
            refine r_getI (z := r.2) (pc2 := 74) dX12_takeNumber_71 rfl (Or.inl fX12_182) (hK_317 hS) mM_f ?_
            refine r_ifle (tgt := 79) (pc2 := 77) dX12_takeNumber_74 rfl (by decide) ⟨by omega, by omega⟩ (fun b_74 => ?_) (fun b_74 => ?_)
            · refine r_aload0 (pc2 := 80) dX12_takeNumber_79 rfl ?_
              refine r_dup (pc2 := 81) dX12_takeNumber_80 rfl rfl ?_
              refine r_getI (z := ((r.1 : Nat) : Int)) (pc2 := 84) dX12_takeNumber_81 rfl (Or.inl fX12_179) (hK_317 hS) mM_t ?_
              refine r_iconst (pc2 := 85) dX12_takeNumber_84 rfl ?_
              refine r_iadd (c := (((r.1 + 1) : Nat) : Int)) (pc2 := 86) dX12_takeNumber_85 rfl (by omega) ?_
              refine r_putI (z := (((r.1 + 1) : Nat) : Int)) (pc2 := 89) dX12_takeNumber_86 rfl fX12_179 (w12_7 _) (hK_317 hS) (by decide) ?_
              refine r_aload0 (pc2 := 90) dX12_takeNumber_89 rfl ?_
              refine r_getR (pc2 := 93) dX12_takeNumber_90 rfl fX12_30 (hK_317 hS) (hR_317_6 hS) ?_
              refine r_aload0 (pc2 := 94) dX12_takeNumber_93 rfl ?_
              refine r_getI (z := (((r.1 + 1) : Nat) : Int)) (pc2 := 97) dX12_takeNumber_94 rfl (Or.inl fX12_179) (hK_317 hS) rfl ?_
              refine r_iconst (pc2 := 98) dX12_takeNumber_97 rfl ?_
              refine r_isub (c := ((r.1 : Nat) : Int)) (pc2 := 99) dX12_takeNumber_98 rfl (by omega) ?_
              refine r_lald (z := (lN (kV T r.1))) (pc2 := 100) dX12_takeNumber_99 rfl (hK_321 hS) (r.1) rfl (by omega) hv ?_
              refine r_l2i (pc2 := 101) dX12_takeNumber_100 rfl ?_
              refine r_ireti dX12_takeNumber_101 rfl ?_
              refine ⟨((kV T r.1 : Nat) : Int), ⟨by omega, by omega⟩, by rw [← jL_nat, jL_l2i], ?_, fun _ => rfl⟩
              rw [rN_19 (by omega) hk (by have := hcl.1; have := hch.2; omega) hlt, mM_a, show r.2 = 0 by omega]
            · refine r_iconst (pc2 := 78) dX12_takeNumber_77 rfl ?_
              refine r_ireti dX12_takeNumber_78 rfl ?_
              exact absurd b_74 (by omega)
          · refine r_aload0 (pc2 := 66) dX12_takeNumber_65 rfl ?_
            refine r_iconst (pc2 := 67) dX12_takeNumber_66 rfl ?_
            refine r_cv1 (pc2 := 70) dX12_takeNumber_67 rfl vX12_188 (hK_317 hS) (by decide) (c_X12_wrong (d := d) (M := M) (r := r) (w := 4) hS hT hC ho (by omega)) ?_
            rintro _ M9 ⟨rfl, h9⟩
            rw [h9]
            have hfl := (ho.f hT (w := 4) (by omega) (by omega)).2
            show Go (Ct (d + 1)) _ yX12_takeNumber cX12_takeNumber (some .int) 0 0 70 [some (.ref 317), some (.int (iI lo)), some (.int (iI hi))] [] (mM M (fl T 4 r))
            refine r_aload0 (pc2 := 71) dX12_takeNumber_70 rfl ?_
            refine r_getI (z := (fl T 4 r).2) (pc2 := 74) dX12_takeNumber_71 rfl (Or.inl fX12_182) (hK_317 hS) mM_f ?_
            refine r_ifle (tgt := 79) (pc2 := 77) dX12_takeNumber_74 rfl (by decide) ⟨by omega, by omega⟩ (fun b_74 => ?_) (fun b_74 => ?_)
            · exact absurd b_74 (by have := fl_f (T := T) (w := 4) (r := r) (by omega) ho2; omega)
            · refine r_iconst (pc2 := 78) dX12_takeNumber_77 rfl ?_
              refine r_ireti dX12_takeNumber_78 rfl ?_
              have hb : ((kV T r.1 : Nat) : Int) < lo ∨ hi < ((kV T r.1 : Nat) : Int) := by have := hcl.1; have := hch.2; omega
              refine ⟨0, ⟨by omega, by omega⟩, rfl, ?_, fun q => absurd q (by rw [rN_4 ho2 hk hb]; exact fl_f (by omega) ho2)⟩
              rw [rN_4 ho2 hk hb]
    · refine r_aload0 (pc2 := 21) dX12_takeNumber_20 rfl ?_
      refine r_iconst (pc2 := 22) dX12_takeNumber_21 rfl ?_
      refine r_cv1 (pc2 := 25) dX12_takeNumber_22 rfl vX12_188 (hK_317 hS) (by decide) (c_X12_wrong (d := d) (M := M) (r := r) (w := 1) hS hT hC ho (by omega)) ?_
      rintro _ M9 ⟨rfl, h9⟩
      rw [h9]
      have hfl := (ho.f hT (w := 1) (by omega) (by omega)).2
      show Go (Ct (d + 1)) _ yX12_takeNumber cX12_takeNumber (some .int) 0 0 25 [some (.ref 317), some (.int (iI lo)), some (.int (iI hi))] [] (mM M (fl T 1 r))
      refine r_goto (tgt := 70) dX12_takeNumber_25 (by decide) ?_
      refine r_aload0 (pc2 := 71) dX12_takeNumber_70 rfl ?_
      refine r_getI (z := (fl T 1 r).2) (pc2 := 74) dX12_takeNumber_71 rfl (Or.inl fX12_182) (hK_317 hS) mM_f ?_
      refine r_ifle (tgt := 79) (pc2 := 77) dX12_takeNumber_74 rfl (by decide) ⟨by omega, by omega⟩ (fun b_74 => ?_) (fun b_74 => ?_)
      · exact absurd b_74 (by have := fl_f (T := T) (w := 1) (r := r) (by omega) ho2; omega)
      · refine r_iconst (pc2 := 78) dX12_takeNumber_77 rfl ?_
        refine r_ireti dX12_takeNumber_78 rfl ?_
        have hk : ¬ kK T r.1 = 19 := fun e => b_17 (hso.2.2.1.mpr e)
        refine ⟨0, ⟨by omega, by omega⟩, rfl, ?_, fun q => absurd q (by rw [rN_1 ho2 hk]; exact fl_f (by omega) ho2)⟩
        rw [rN_1 ho2 hk]
