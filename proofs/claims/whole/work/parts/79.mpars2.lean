/-! the model's takeShift, isName, findName, emit -/
theorem rS_e {T : tD} {r : rdT} : (if r.2 = 0 ∧ kK T r.1 = 45 then av T r else r) = (if kK T r.1 = 45 then av T r else r) := by
  by_cases h : r.2 = 0
  · by_cases k : kK T r.1 = 45
    · rw [if_pos ⟨h, k⟩, if_pos k]
    · rw [if_neg (fun q => k q.2), if_neg k]
  · rw [if_neg (fun q => h q.1), av_n h]; split <;> rfl
set_option maxHeartbeats 4000000 in
theorem c_X12_takeShift {d : Nat} {M : pM} {T : tD} {r : rdT}  (hS : sOk M.1) (hT : tOk T) (hC : mT M T) (ho : rOk T r) : Ct (d + 4) 0 0 yX12_takeShift [.ref 317] (mM M r) (fun v M2 => ∃ z, inR z ∧ v = some (.int (iI z)) ∧ M2 = mM M (rS T r) ∧ ((rS T r).2 = 0 → z = sV T r)) := by
  refine ct_in (d := (d + 3)) kX12_takeShift rfl (by decide) (Nat.le_of_ble_eq_true rfl) (by decide) ?_
  show Go (Ct (d + 3)) _ yX12_takeShift cX12_takeShift (some .int) 0 0 0 [some (.ref 317), none, none] [] (mM M r)
  have hT1 := hT.1
  have ho1 := ho.1
  have ho2 := ho.2.1
  have ho3 := ho.2.2
  have hso := mSo_3 hT ho.1
  have hsr := mSo_r (k := kK T r.1)
  refine r_aload0 (pc2 := 1) dX12_takeShift_0 rfl ?_
  refine r_bipush (pc2 := 3) dX12_takeShift_1 rfl (by decide) (by decide) ?_
  refine r_cv1 (pc2 := 6) dX12_takeShift_3 rfl vX12_201 (hK_317 hS) (by decide) (c_X12_hasSign (d := d + 1) (M := M) (r := r) (c := 45) hS hT hC ho (by omega)) ?_
  rintro _ M9 ⟨h9, hq⟩
  rw [rS_e] at h9
  obtain ⟨r1, e1⟩ : ∃ x, x = (if kK T r.1 = 45 then av T r else r) := ⟨_, rfl⟩
  rw [← e1] at h9
  have o1 : rOk T r1 := by rw [e1]; split; exact ho.a; exact ho
  rcases hq with ⟨hq, rfl⟩ | ⟨hq, rfl⟩
  · rw [h9]
    show Go (Ct (d + 3)) _ yX12_takeShift cX12_takeShift (some .int) 0 0 6 [some (.ref 317), none, none] [.int (iI 1)] (mM M r1)
    refine r_istore1 (pc2 := 7) dX12_takeShift_6 rfl rfl ?_
    refine r_aload0 (pc2 := 8) dX12_takeShift_7 rfl ?_
    refine r_iconst (pc2 := 9) dX12_takeShift_8 rfl ?_
    refine r_bipush (pc2 := 11) dX12_takeShift_9 rfl (by decide) (by decide) ?_
    refine r_cv2 (pc2 := 14) dX12_takeShift_11 rfl vX12_204 (hK_317 hS) (by decide) (c_X12_takeNumber (d := d + 1) (M := M) (r := r1) (lo := 0) (hi := 12) hS hT hC o1 ⟨by omega, by omega⟩ ⟨by omega, by omega⟩) ?_
    rintro _ M9 ⟨z, hz, rfl, h9, hv⟩
    rw [h9]
    obtain ⟨z1, z2⟩ := hz
    show Go (Ct (d + 3)) _ yX12_takeShift cX12_takeShift (some .int) 0 0 14 [some (.ref 317), some (.int (iI 1)), none] [.int (iI z)] (mM M (rN T 0 12 r1))
    refine r_istore2 (pc2 := 15) dX12_takeShift_14 rfl rfl ?_
    refine r_iload1 (pc2 := 16) dX12_takeShift_15 rfl ?_
    refine r_ifeq (tgt := 24) (pc2 := 19) dX12_takeShift_16 rfl (by decide) ⟨by omega, by omega⟩ (fun h9 => absurd h9 (by decide)) (fun _ => ?_)
    refine r_iload2 (pc2 := 20) dX12_takeShift_19 rfl ?_
    refine r_ineg (c := (-z)) (pc2 := 21) dX12_takeShift_20 rfl rfl ?_
    refine r_goto (tgt := 25) dX12_takeShift_21 (by decide) ?_
    refine r_ireti dX12_takeShift_25 rfl ?_
    have eS : rS T r = rN T 0 12 r1 := by rw [rS, ← e1]
    obtain ⟨y, hy, hy2⟩ := iI_ex (iI (-z))
    refine ⟨y, hy, by rw [hy2], by rw [eS], fun q => ?_⟩
    rw [eS] at q
    have e9 := hv q
    have h8 := (rN_0 hT o1 q).2.2.1
    have h7 : inR (-z) := ⟨by omega, by omega⟩
    rw [e1, if_pos hq.2] at e9
    rw [sV, if_pos hq.2, ← e9]
    exact ((iI_inj h7 hy).mp hy2).symm
  · rw [h9]
    show Go (Ct (d + 3)) _ yX12_takeShift cX12_takeShift (some .int) 0 0 6 [some (.ref 317), none, none] [.int (iI 0)] (mM M r1)
    refine r_istore1 (pc2 := 7) dX12_takeShift_6 rfl rfl ?_
    refine r_aload0 (pc2 := 8) dX12_takeShift_7 rfl ?_
    refine r_iconst (pc2 := 9) dX12_takeShift_8 rfl ?_
    refine r_bipush (pc2 := 11) dX12_takeShift_9 rfl (by decide) (by decide) ?_
    refine r_cv2 (pc2 := 14) dX12_takeShift_11 rfl vX12_204 (hK_317 hS) (by decide) (c_X12_takeNumber (d := d + 1) (M := M) (r := r1) (lo := 0) (hi := 12) hS hT hC o1 ⟨by omega, by omega⟩ ⟨by omega, by omega⟩) ?_
    rintro _ M9 ⟨z, hz, rfl, h9, hv⟩
    rw [h9]
    obtain ⟨z1, z2⟩ := hz
    show Go (Ct (d + 3)) _ yX12_takeShift cX12_takeShift (some .int) 0 0 14 [some (.ref 317), some (.int (iI 0)), none] [.int (iI z)] (mM M (rN T 0 12 r1))
    refine r_istore2 (pc2 := 15) dX12_takeShift_14 rfl rfl ?_
    refine r_iload1 (pc2 := 16) dX12_takeShift_15 rfl ?_
    refine r_ifeq (tgt := 24) (pc2 := 19) dX12_takeShift_16 rfl (by decide) ⟨by omega, by omega⟩ (fun _ => ?_) (fun h9 => absurd h9 (by decide))
    refine r_iload2 (pc2 := 25) dX12_takeShift_24 rfl ?_
    refine r_ireti dX12_takeShift_25 rfl ?_
    have eS : rS T r = rN T 0 12 r1 := by rw [rS, ← e1]
    refine ⟨z, ⟨z1, z2⟩, rfl, by rw [eS], fun q => ?_⟩
    rw [eS] at q
    have e9 := hv q
    have h0 := (rN_0 hT o1 q).1
    have hk : ¬ kK T r.1 = 45 := fun e => by rw [e1, if_pos e] at h0; exact hq ⟨av_0 h0, e⟩
    rw [e1, if_neg hk] at e9
    rw [sV, if_neg hk]; exact e9
set_option maxHeartbeats 4000000 in
theorem lp_X12_isName {d : Nat} {Q : pQ} {M : pM} {T : tD} {r : rdT} (hS : sOk M.1) (hT : tOk T) (hC : mT M T) (ho : rOk T r) (hW : mWd M) (hQ1 : (r.2 = 0 ∧ kK T r.1 = 18) → Q (some (.int (iI 1))) (mM M r)) (hQ2 : ¬ (r.2 = 0 ∧ kK T r.1 = 18) → Q (some (.int (iI 0))) (mM M r)) :
    ∀ (m k : Nat) (z : Int), k + m = 17 → (z = 0 ∨ z = 1) → (z = 1 ↔ r.2 = 0 ∧ isW (kK T r.1) ∧ ∀ j, j < k → ¬ kK T r.1 = ((pw j : Nat) : Int)) →
      Go (Ct d) Q yX12_isName cX12_isName (some .boolean) 0 0 28 [some (.ref 317), some (.int (iI z)), some (.int (iI ((k : Nat) : Int)))] [] (mM M r) := by
  have hT1 := hT.1
  have ho1 := ho.1
  intro m
  induction m with
  | zero =>
    intro k z hm hz hi
    obtain rfl : k = 17 := by omega
    have hfin : (r.2 = 0 ∧ isW (kK T r.1) ∧ ∀ j, j < 17 → ¬ kK T r.1 = ((pw j : Nat) : Int)) ↔ (r.2 = 0 ∧ kK T r.1 = 18) := by
      constructor
      · rintro ⟨a, b, c⟩
        refine ⟨a, ?_⟩
        unfold isW at b
        apply Classical.byContradiction
        intro e
        by_cases g : 10 ≤ kK T r.1
        · exact c (kK T r.1 - 10).toNat (by omega) (by unfold pw; rw [if_pos (by omega)]; omega)
        · exact c (kK T r.1 + 7).toNat (by omega) (by unfold pw; rw [if_neg (by omega)]; omega)
      · rintro ⟨a, b⟩
        refine ⟨a, by unfold isW; omega, fun j hj => ?_⟩
        have := pw_r hj
        omega
    refine r_iload2 (pc2 := 29) dX12_isName_28 rfl ?_
    refine r_bipush (pc2 := 31) dX12_isName_29 rfl (by decide) (by decide) ?_
    refine r_icge (tgt := 69) (pc2 := 34) dX12_isName_31 rfl (by decide) ⟨by omega, by omega⟩ ⟨by omega, by omega⟩ (fun _ => ?_) (fun h9 => absurd h9 (by decide))
    refine r_iload1 (pc2 := 70) dX12_isName_69 rfl ?_
    refine r_iretz dX12_isName_70 rfl (by omega) ?_
    rcases hz with hz | hz
    · subst hz; exact hQ2 (fun q => absurd (hi.mpr (hfin.mpr q)) (by decide))
    · subst hz; exact hQ1 (hfin.mp (hi.mp rfl))
  | succ m ih =>
    intro k z hm hz hi
    have hwk : (mM M r).2.2 322 k = lN (m37 8 (kwI (pw k))) := hW k (by omega)
    have hpw := pw_r (show k < 17 by omega)
    refine r_iload2 (pc2 := 29) dX12_isName_28 rfl ?_
    refine r_bipush (pc2 := 31) dX12_isName_29 rfl (by decide) (by decide) ?_
    refine r_icge (tgt := 69) (pc2 := 34) dX12_isName_31 rfl (by decide) ⟨by omega, by omega⟩ ⟨by omega, by omega⟩ (fun b_31 => ?_) (fun b_31 => ?_)
    · refine r_iload1 (pc2 := 70) dX12_isName_69 rfl ?_
      refine r_iretz dX12_isName_70 rfl (by omega) ?_
      exact absurd b_31 (by omega)
    · refine r_iload1 (pc2 := 35) dX12_isName_34 rfl ?_
      refine r_ifeq (tgt := 61) (pc2 := 38) dX12_isName_35 rfl (by decide) ⟨by omega, by omega⟩ (fun b_35 => ?_) (fun b_35 => ?_)
      · refine r_iconst (pc2 := 62) dX12_isName_61 rfl ?_
        refine r_istore1 (pc2 := 63) dX12_isName_62 rfl rfl ?_
        refine r_iinc2 (z := ((k + 1 : Nat) : Int)) (pc2 := 66) dX12_isName_63 rfl (by omega) rfl ?_
        refine r_goto (tgt := 28) dX12_isName_66 (by decide) ?_
        refine ih (k + 1) 0 (by omega) (Or.inl rfl) ⟨fun q => absurd q (by decide), fun q => ?_⟩
        have := hi.mpr ⟨q.1, q.2.1, fun j hj => q.2.2 j (by omega)⟩
        omega
      · refine r_aload0 (pc2 := 39) dX12_isName_38 rfl ?_
        refine r_getR (pc2 := 42) dX12_isName_39 rfl fX12_30 (hK_317 hS) (hR_317_6 hS) ?_
        refine r_aload0 (pc2 := 43) dX12_isName_42 rfl ?_
        refine r_getI (z := ((r.1 : Nat) : Int)) (pc2 := 46) dX12_isName_43 rfl (Or.inl fX12_179) (hK_317 hS) mM_t ?_
        refine r_lald (z := ((mM M r).2.2 321 (r.1))) (pc2 := 47) dX12_isName_46 rfl (hK_321 hS) (r.1) rfl (by omega) rfl ?_
        refine r_aload0 (pc2 := 48) dX12_isName_47 rfl ?_
        refine r_getR (pc2 := 51) dX12_isName_48 rfl fX12_68 (hK_317 hS) (hR_317_9 hS) ?_
        refine r_iload2 (pc2 := 52) dX12_isName_51 rfl ?_
        refine r_lald (z := (lN (m37 8 (kwI (pw k))))) (pc2 := 53) dX12_isName_52 rfl (hK_322 hS) k rfl (by omega) hwk ?_
        refine r_lcmp (pc2 := 54) dX12_isName_53 rfl ?_
        have lr53 := lcm_r (((mM M r).2.2 321 (r.1))) ((lN (m37 8 (kwI (pw k)))))
        rw [lg_iI]
        refine r_ifeq (tgt := 61) (pc2 := 57) dX12_isName_54 rfl (by decide) ⟨by omega, by omega⟩ (fun b_54 => ?_) (fun b_54 => ?_)
        · refine r_iconst (pc2 := 62) dX12_isName_61 rfl ?_
          refine r_istore1 (pc2 := 63) dX12_isName_62 rfl rfl ?_
          refine r_iinc2 (z := ((k + 1 : Nat) : Int)) (pc2 := 66) dX12_isName_63 rfl (by omega) rfl ?_
          refine r_goto (tgt := 28) dX12_isName_66 (by decide) ?_
          have hz1 := hi.mp (by omega)
          have hl := K_lt hT ho.1 (by have := hz1.2.1; unfold isW at this; omega)
          have hv : (mM M r).2.2 321 (r.1) = lN (m37 8 (kI T r.1)) := hC.2.2.1 r.1 hl hz1.2.1
          have hid := hT.2.2.2.2.2.1 r.1 hl hz1.2.1
          have hq := (hid.1.key (kw_v (pw k) hpw.1 hpw.2)).2
          have hk := wKd_k (x := kI T r.1) hpw.1 hpw.2
          rw [hv] at lr53 b_54
          have hkk : lN (m37 8 (kI T r.1)) = lN (m37 8 (kwI (pw k))) ↔ kK T r.1 = ((pw k : Nat) : Int) := by rw [hq]; exact ⟨fun e => hid.2.trans (hk.mpr e), fun e => hk.mp (hid.2.symm.trans e)⟩
          refine ih (k + 1) 0 (by omega) (Or.inl rfl) ⟨fun q => absurd q (by decide), fun q => ?_⟩
          exact absurd (hkk.mp (lr53.2.2.mp (by omega))) (q.2.2 k (by omega))
        · refine r_iconst (pc2 := 58) dX12_isName_57 rfl ?_
          refine r_goto (tgt := 62) dX12_isName_58 (by decide) ?_
          refine r_istore1 (pc2 := 63) dX12_isName_62 rfl rfl ?_
          refine r_iinc2 (z := ((k + 1 : Nat) : Int)) (pc2 := 66) dX12_isName_63 rfl (by omega) rfl ?_
          refine r_goto (tgt := 28) dX12_isName_66 (by decide) ?_
          have hz1 := hi.mp (by omega)
          have hl := K_lt hT ho.1 (by have := hz1.2.1; unfold isW at this; omega)
          have hv : (mM M r).2.2 321 (r.1) = lN (m37 8 (kI T r.1)) := hC.2.2.1 r.1 hl hz1.2.1
          have hid := hT.2.2.2.2.2.1 r.1 hl hz1.2.1
          have hq := (hid.1.key (kw_v (pw k) hpw.1 hpw.2)).2
          have hk := wKd_k (x := kI T r.1) hpw.1 hpw.2
          rw [hv] at lr53 b_54
          have hkk : lN (m37 8 (kI T r.1)) = lN (m37 8 (kwI (pw k))) ↔ kK T r.1 = ((pw k : Nat) : Int) := by rw [hq]; exact ⟨fun e => hid.2.trans (hk.mpr e), fun e => hk.mp (hid.2.symm.trans e)⟩
          refine ih (k + 1) 1 (by omega) (Or.inr rfl) ⟨fun _ => ⟨hz1.1, hz1.2.1, fun j hj => ?_⟩, fun _ => rfl⟩
          by_cases u : j = k
          · subst u; exact fun e => b_54 (lr53.2.2.mpr (hkk.mpr e))
          · exact hz1.2.2 j (by omega)
set_option maxHeartbeats 4000000 in
theorem c_X12_isName {d : Nat} {M : pM} {T : tD} {r : rdT}  (hS : sOk M.1) (hT : tOk T) (hC : mT M T) (ho : rOk T r) (hW : mWd M) : Ct (d + 1) 0 0 yX12_isName [.ref 317] (mM M r) (fun v M2 => M2 = mM M r ∧ ((r.2 = 0 ∧ kK T r.1 = 18) ∧ v = some (.int (iI 1)) ∨ ¬ (r.2 = 0 ∧ kK T r.1 = 18) ∧ v = some (.int (iI 0)))) := by
  refine ct_in (d := d) kX12_isName rfl (by decide) (Nat.le_of_ble_eq_true rfl) (by decide) ?_
  show Go (Ct d) _ yX12_isName cX12_isName (some .boolean) 0 0 0 [some (.ref 317), none, none] [] (mM M r)
  have hT1 := hT.1
  have ho1 := ho.1
  have ho2 := ho.2.1
  have ho3 := ho.2.2
  have hso := mSo_3 hT ho.1
  have hsr := mSo_r (k := kK T r.1)
  refine r_aload0 (pc2 := 1) dX12_isName_0 rfl ?_
  refine r_getI (z := r.2) (pc2 := 4) dX12_isName_1 rfl (Or.inl fX12_182) (hK_317 hS) mM_f ?_
  refine r_ifne (tgt := 24) (pc2 := 7) dX12_isName_4 rfl (by decide) ⟨by omega, by omega⟩ (fun b_4 => ?_) (fun b_4 => ?_)
  · refine r_iconst (pc2 := 25) dX12_isName_24 rfl ?_
    refine r_istore1 (pc2 := 26) dX12_isName_25 rfl rfl ?_
    refine r_iconst (pc2 := 27) dX12_isName_26 rfl ?_
    refine r_istore2 (pc2 := 28) dX12_isName_27 rfl rfl ?_
    exact lp_X12_isName hS hT hC ho hW (fun q => ⟨rfl, Or.inl ⟨q, rfl⟩⟩) (fun q => ⟨rfl, Or.inr ⟨q, rfl⟩⟩) 17 0 0 (by omega) (by omega) ⟨fun q => absurd q (by decide), fun q => absurd q.1 b_4⟩
  · refine r_aload0 (pc2 := 8) dX12_isName_7 rfl ?_
    refine r_getR (pc2 := 11) dX12_isName_8 rfl fX12_24 (hK_317 hS) (hR_317_4 hS) ?_
    refine r_aload0 (pc2 := 12) dX12_isName_11 rfl ?_
    refine r_getI (z := ((r.1 : Nat) : Int)) (pc2 := 15) dX12_isName_12 rfl (Or.inl fX12_179) (hK_317 hS) mM_t ?_
    refine r_iald (z := (mSo (kK T r.1))) (pc2 := 16) dX12_isName_15 rfl (hK_319 hS) (r.1) rfl (by omega) (by rw [mM_c (by decide)]; exact (hC.1 r.1 ho.1).1) ?_
    refine r_iconst (pc2 := 17) dX12_isName_16 rfl ?_
    refine r_icne (tgt := 24) (pc2 := 20) dX12_isName_17 rfl (by decide) ⟨by omega, by omega⟩ ⟨by omega, by omega⟩ (fun b_17 => ?_) (fun b_17 => ?_)
    · refine r_iconst (pc2 := 25) dX12_isName_24 rfl ?_
      refine r_istore1 (pc2 := 26) dX12_isName_25 rfl rfl ?_
      refine r_iconst (pc2 := 27) dX12_isName_26 rfl ?_
      refine r_istore2 (pc2 := 28) dX12_isName_27 rfl rfl ?_
      exact lp_X12_isName hS hT hC ho hW (fun q => ⟨rfl, Or.inl ⟨q, rfl⟩⟩) (fun q => ⟨rfl, Or.inr ⟨q, rfl⟩⟩) 17 0 0 (by omega) (by omega) ⟨fun q => absurd q (by decide), fun q => absurd (hso.2.1.mpr q.2.1) b_17⟩
    · refine r_iconst (pc2 := 21) dX12_isName_20 rfl ?_
      refine r_goto (tgt := 25) dX12_isName_21 (by decide) ?_
      refine r_istore1 (pc2 := 26) dX12_isName_25 rfl rfl ?_
      refine r_iconst (pc2 := 27) dX12_isName_26 rfl ?_
      refine r_istore2 (pc2 := 28) dX12_isName_27 rfl rfl ?_
      exact lp_X12_isName hS hT hC ho hW (fun q => ⟨rfl, Or.inl ⟨q, rfl⟩⟩) (fun q => ⟨rfl, Or.inr ⟨q, rfl⟩⟩) 17 0 1 (by omega) (by omega) ⟨fun _ => ⟨by omega, hso.2.1.mp (by omega), fun j hj => absurd hj (by omega)⟩, fun _ => rfl⟩
set_option maxHeartbeats 4000000 in
theorem lp_X12_findName {d : Nat} {Q : pQ} {M : pM} {T : tD} {r : rdT} {G : gPr} {x : Nat} (hS : sOk M.1) (hT : tOk T) (ho : rOk T r) (hx : M.2.2 321 r.1 = lN (m37 8 x)) (hvx : vId x) (hg : gT G ≤ 30) (hG2 : M.2.1 317 14 = ((gT G : Nat) : Int)) (hG5 : ∀ k, k < gT G → M.2.2 326 k = lN (m37 8 (gN G k)) ∧ vId (gN G k)) (hdi : ∀ j k, j < gT G → k < gT G → gN G j = gN G k → j = k)
    (hQ : Q (some (.int (iI (fnN G x)))) (mM M r)) :
    ∀ (m i : Nat) (z : Int), i + m = gT G → -1 ≤ z → z < 30 → (z = -1 ∧ (∀ j, j < i → ¬ gN G j = x) ∨ ∃ j : Nat, j < i ∧ gN G j = x ∧ z = (j : Int)) →
      Go (Ct d) Q yX12_findName cX12_findName (some .int) 0 0 4 [some (.ref 317), some (.int (iI z)), some (.int (iI ((i : Nat) : Int)))] [] (mM M r) := by
  have hT1 := hT.1
  have ho1 := ho.1
  have hx2 : (mM M r).2.2 321 (r.1) = lN (m37 8 x) := hx
  intro m
  induction m with
  | zero =>
    intro i z hm hz1 hz2 hi
    obtain rfl : i = gT G := by omega
    have hfin : z = fnN G x := by
      have hf := fnd_r (nm := gN G) (x := x) (gT G) 0
      rcases hi with ⟨h1, h2⟩ | ⟨j, h1, h2, h3⟩
      · rcases hf with ⟨g1, -⟩ | ⟨k, g1, g2, g3, -⟩
        · exact h1.trans g1.symm
        · exact absurd g3 (h2 k (by omega))
      · rcases hf with ⟨-, g2⟩ | ⟨k, g1, g2, g3, g4⟩
        · exact absurd h2 (g2 j (by omega) (by omega))
        · have := hdi j k h1 (by omega) (h2.trans g3.symm)
          subst this
          exact h3.trans g4.symm
    refine r_iload2 (pc2 := 5) dX12_findName_4 rfl ?_
    refine r_aload0 (pc2 := 6) dX12_findName_5 rfl ?_
    refine r_getI (z := ((gT G : Nat) : Int)) (pc2 := 9) dX12_findName_6 rfl (Or.inl fX12_208) (hK_317 hS) hG2 ?_
    refine r_icge (tgt := 43) (pc2 := 12) dX12_findName_9 rfl (by decide) ⟨by omega, by omega⟩ ⟨by omega, by omega⟩ (fun b_9 => ?_) (fun b_9 => ?_)
    · refine r_iload1 (pc2 := 44) dX12_findName_43 rfl ?_
      refine r_ireti dX12_findName_44 rfl ?_
      rw [hfin]; exact hQ
    · exact absurd b_9 (by omega)
  | succ m ih =>
    intro i z hm hz1 hz2 hi
    have hn := hG5 i (by omega)
    have hn1 : (mM M r).2.2 326 i = lN (m37 8 (gN G i)) := hn.1
    have hk := (hn.2.key hvx).2
    refine r_iload2 (pc2 := 5) dX12_findName_4 rfl ?_
    refine r_aload0 (pc2 := 6) dX12_findName_5 rfl ?_
    refine r_getI (z := ((gT G : Nat) : Int)) (pc2 := 9) dX12_findName_6 rfl (Or.inl fX12_208) (hK_317 hS) hG2 ?_
    refine r_icge (tgt := 43) (pc2 := 12) dX12_findName_9 rfl (by decide) ⟨by omega, by omega⟩ ⟨by omega, by omega⟩ (fun b_9 => ?_) (fun b_9 => ?_)
    · refine r_iload1 (pc2 := 44) dX12_findName_43 rfl ?_
      refine r_ireti dX12_findName_44 rfl ?_
      exact absurd b_9 (by omega)
    · refine r_aload0 (pc2 := 13) dX12_findName_12 rfl ?_
      refine r_getR (pc2 := 16) dX12_findName_13 rfl fX12_80 (hK_317 hS) (hR_317_15 hS) ?_
      refine r_iload2 (pc2 := 17) dX12_findName_16 rfl ?_
      refine r_lald (z := (lN (m37 8 (gN G i)))) (pc2 := 18) dX12_findName_17 rfl (hK_326 hS) i rfl (by omega) hn1 ?_
      refine r_aload0 (pc2 := 19) dX12_findName_18 rfl ?_
      refine r_getR (pc2 := 22) dX12_findName_19 rfl fX12_30 (hK_317 hS) (hR_317_6 hS) ?_
      refine r_aload0 (pc2 := 23) dX12_findName_22 rfl ?_
      refine r_getI (z := ((r.1 : Nat) : Int)) (pc2 := 26) dX12_findName_23 rfl (Or.inl fX12_179) (hK_317 hS) mM_t ?_
      refine r_lald (z := (lN (m37 8 x))) (pc2 := 27) dX12_findName_26 rfl (hK_321 hS) (r.1) rfl (by omega) hx2 ?_
      refine r_lcmp (pc2 := 28) dX12_findName_27 rfl ?_
      have lr27 := lcm_r ((lN (m37 8 (gN G i)))) ((lN (m37 8 x)))
      rw [lg_iI]
      refine r_ifne (tgt := 35) (pc2 := 31) dX12_findName_28 rfl (by decide) ⟨by omega, by omega⟩ (fun b_28 => ?_) (fun b_28 => ?_)
      · refine r_iload1 (pc2 := 36) dX12_findName_35 rfl ?_
        refine r_istore1 (pc2 := 37) dX12_findName_36 rfl rfl ?_
        refine r_iinc2 (z := ((i + 1 : Nat) : Int)) (pc2 := 40) dX12_findName_37 rfl (by omega) rfl ?_
        refine r_goto (tgt := 4) dX12_findName_40 (by decide) ?_
        have hne : ¬ gN G i = x := fun e => b_28 (lr27.2.2.mpr (hk.mpr e))
        refine ih (i + 1) z (by omega) hz1 hz2 ?_
        rcases hi with ⟨h1, h2⟩ | ⟨j, h1, h2, h3⟩
        · refine Or.inl ⟨h1, fun j hj => ?_⟩
          by_cases u : j = i
          · subst u; exact hne
          · exact h2 j (by omega)
        · exact Or.inr ⟨j, by omega, h2, h3⟩
      · refine r_iload2 (pc2 := 32) dX12_findName_31 rfl ?_
        refine r_goto (tgt := 36) dX12_findName_32 (by decide) ?_
        refine r_istore1 (pc2 := 37) dX12_findName_36 rfl rfl ?_
        refine r_iinc2 (z := ((i + 1 : Nat) : Int)) (pc2 := 40) dX12_findName_37 rfl (by omega) rfl ?_
        refine r_goto (tgt := 4) dX12_findName_40 (by decide) ?_
        exact ih (i + 1) ((i : Nat) : Int) (by omega) (by omega) (by omega) (Or.inr ⟨i, by omega, hk.mp (lr27.2.2.mp (by omega)), rfl⟩)
set_option maxHeartbeats 4000000 in
theorem c_X12_findName {d : Nat} {M : pM} {T : tD} {r : rdT} {G : gPr} (hS : sOk M.1) (hT : tOk T) (hC : mT M T) (ho : rOk T r) (hw : isW (kK T r.1)) (hg : gT G ≤ 30) (hG2 : M.2.1 317 14 = ((gT G : Nat) : Int)) (hG5 : ∀ k, k < gT G → M.2.2 326 k = lN (m37 8 (gN G k)) ∧ vId (gN G k)) (hdi : ∀ j k, j < gT G → k < gT G → gN G j = gN G k → j = k) : Ct (d + 1) 0 0 yX12_findName [.ref 317] (mM M r) (fun v M2 => v = some (.int (iI (fnN G (kI T r.1)))) ∧ M2 = mM M r) := by
  refine ct_in (d := d) kX12_findName rfl (by decide) (Nat.le_of_ble_eq_true rfl) (by decide) ?_
  show Go (Ct d) _ yX12_findName cX12_findName (some .int) 0 0 0 [some (.ref 317), none, none] [] (mM M r)
  have hT1 := hT.1
  have ho1 := ho.1
  have ho2 := ho.2.1
  have ho3 := ho.2.2
  have hso := mSo_3 hT ho.1
  have hsr := mSo_r (k := kK T r.1)
  refine r_iconst (pc2 := 1) dX12_findName_0 rfl ?_
  refine r_istore1 (pc2 := 2) dX12_findName_1 rfl rfl ?_
  refine r_iconst (pc2 := 3) dX12_findName_2 rfl ?_
  refine r_istore2 (pc2 := 4) dX12_findName_3 rfl rfl ?_
  have hl := K_lt hT ho.1 (by unfold isW at hw; omega)
  exact lp_X12_findName hS hT ho (hC.2.2.1 r.1 hl hw) (hT.2.2.2.2.2.1 r.1 hl hw).1 hg hG2 hG5 hdi ⟨rfl, rfl⟩ (gT G) 0 (-1) (by omega) (by omega) (by omega) (Or.inl ⟨rfl, fun j hj => absurd hj (by omega)⟩)
def eM (M : pM) (i : Nat) (c : Int) : pM := pI (pI (pI (pI (pI (pI (pI (pI M 323 i c) 324 (5 * i) 0) 324 (5 * i + 1) 0) 324 (5 * i + 2) 0) 324 (5 * i + 3) 0) 324 (5 * i + 4) 0) 325 i (((i + 1 : Nat)) : Int)) 317 10 (((i + 1 : Nat)) : Int)
theorem eM_m {M : pM} {r : rdT} {i : Nat} {c : Int} : eM (mM M r) i c = mM (eM M i c) r := by
  unfold eM
  rw [mM_o (by omega), mM_o (by omega), mM_o (by omega), mM_o (by omega), mM_o (by omega), mM_o (by omega), mM_o (by omega), mM_o (by omega)]
set_option maxHeartbeats 4000000 in
theorem c_X12_emit {d : Nat} {M : pM} {i : Nat} {c : Int} (hS : sOk M.1) (hi : M.2.1 317 10 = ((i : Nat) : Int)) (h125 : i < 125) : Ct (d + 1) 0 0 yX12_emit [.ref 317, .int (iI c)] M (fun v M2 => v = some (.int (iI ((i : Nat) : Int))) ∧ M2 = eM M i c) := by
  refine ct_in (d := d) kX12_emit rfl (by decide) (Nat.le_of_ble_eq_true rfl) (by decide) ?_
  show Go (Ct d) _ yX12_emit cX12_emit (some .int) 0 0 0 [some (.ref 317), some (.int (iI c)), none] [] M
  refine r_aload0 (pc2 := 1) dX12_emit_0 rfl ?_
  refine r_getR (pc2 := 4) dX12_emit_1 rfl fX12_71 (hK_317 hS) (hR_317_11 hS) ?_
  refine r_aload0 (pc2 := 5) dX12_emit_4 rfl ?_
  refine r_getI (z := ((i : Nat) : Int)) (pc2 := 8) dX12_emit_5 rfl (Or.inl fX12_198) (hK_317 hS) hi ?_
  refine r_iload1 (pc2 := 9) dX12_emit_8 rfl ?_
  refine r_iast (z := c) (pc2 := 10) dX12_emit_9 rfl (hK_323 hS) (by decide) i rfl (by omega) ?_
  refine r_iconst (pc2 := 11) dX12_emit_10 rfl ?_
  refine r_istore2 (pc2 := 12) dX12_emit_11 rfl rfl ?_
  refine r_iload2 (pc2 := 13) dX12_emit_12 rfl ?_
  refine r_iconst (pc2 := 14) dX12_emit_13 rfl ?_
  refine r_icge (tgt := 37) (pc2 := 17) dX12_emit_14 rfl (by decide) ⟨by omega, by omega⟩ ⟨by omega, by omega⟩ (fun h9 => absurd h9 (by decide)) (fun _ => ?_)
  refine r_aload0 (pc2 := 18) dX12_emit_17 rfl ?_
  refine r_getR (pc2 := 21) dX12_emit_18 rfl fX12_74 (hK_317 hS) (hR_317_12 hS) ?_
  refine r_iconst (pc2 := 22) dX12_emit_21 rfl ?_
  refine r_aload0 (pc2 := 23) dX12_emit_22 rfl ?_
  refine r_getI (z := ((i : Nat) : Int)) (pc2 := 26) dX12_emit_23 rfl (Or.inl fX12_198) (hK_317 hS) hi ?_
  refine r_imul (c := ((5 * i : Nat) : Int)) (pc2 := 27) dX12_emit_26 rfl (by omega) ?_
  refine r_iload2 (pc2 := 28) dX12_emit_27 rfl ?_
  refine r_iadd (c := (((5 * i : Nat) : Int) + 0)) (pc2 := 29) dX12_emit_28 rfl rfl ?_
  refine r_iconst (pc2 := 30) dX12_emit_29 rfl ?_
  refine r_iast (z := 0) (pc2 := 31) dX12_emit_30 rfl (hK_324 hS) (by decide) (5 * i) (by omega) (by omega) ?_
  refine r_iinc2 (z := 1) (pc2 := 34) dX12_emit_31 rfl rfl rfl ?_
  refine r_goto (tgt := 12) dX12_emit_34 (by decide) ?_
  refine r_iload2 (pc2 := 13) dX12_emit_12 rfl ?_
  refine r_iconst (pc2 := 14) dX12_emit_13 rfl ?_
  refine r_icge (tgt := 37) (pc2 := 17) dX12_emit_14 rfl (by decide) ⟨by omega, by omega⟩ ⟨by omega, by omega⟩ (fun h9 => absurd h9 (by decide)) (fun _ => ?_)
  refine r_aload0 (pc2 := 18) dX12_emit_17 rfl ?_
  refine r_getR (pc2 := 21) dX12_emit_18 rfl fX12_74 (hK_317 hS) (hR_317_12 hS) ?_
  refine r_iconst (pc2 := 22) dX12_emit_21 rfl ?_
  refine r_aload0 (pc2 := 23) dX12_emit_22 rfl ?_
  refine r_getI (z := ((i : Nat) : Int)) (pc2 := 26) dX12_emit_23 rfl (Or.inl fX12_198) (hK_317 hS) hi ?_
  refine r_imul (c := ((5 * i : Nat) : Int)) (pc2 := 27) dX12_emit_26 rfl (by omega) ?_
  refine r_iload2 (pc2 := 28) dX12_emit_27 rfl ?_
  refine r_iadd (c := (((5 * i : Nat) : Int) + 1)) (pc2 := 29) dX12_emit_28 rfl rfl ?_
  refine r_iconst (pc2 := 30) dX12_emit_29 rfl ?_
  refine r_iast (z := 0) (pc2 := 31) dX12_emit_30 rfl (hK_324 hS) (by decide) (5 * i + 1) (by omega) (by omega) ?_
  refine r_iinc2 (z := 2) (pc2 := 34) dX12_emit_31 rfl rfl rfl ?_
  refine r_goto (tgt := 12) dX12_emit_34 (by decide) ?_
  refine r_iload2 (pc2 := 13) dX12_emit_12 rfl ?_
  refine r_iconst (pc2 := 14) dX12_emit_13 rfl ?_
  refine r_icge (tgt := 37) (pc2 := 17) dX12_emit_14 rfl (by decide) ⟨by omega, by omega⟩ ⟨by omega, by omega⟩ (fun h9 => absurd h9 (by decide)) (fun _ => ?_)
  refine r_aload0 (pc2 := 18) dX12_emit_17 rfl ?_
  refine r_getR (pc2 := 21) dX12_emit_18 rfl fX12_74 (hK_317 hS) (hR_317_12 hS) ?_
  refine r_iconst (pc2 := 22) dX12_emit_21 rfl ?_
  refine r_aload0 (pc2 := 23) dX12_emit_22 rfl ?_
  refine r_getI (z := ((i : Nat) : Int)) (pc2 := 26) dX12_emit_23 rfl (Or.inl fX12_198) (hK_317 hS) hi ?_
  refine r_imul (c := ((5 * i : Nat) : Int)) (pc2 := 27) dX12_emit_26 rfl (by omega) ?_
  refine r_iload2 (pc2 := 28) dX12_emit_27 rfl ?_
  refine r_iadd (c := (((5 * i : Nat) : Int) + 2)) (pc2 := 29) dX12_emit_28 rfl rfl ?_
  refine r_iconst (pc2 := 30) dX12_emit_29 rfl ?_
  refine r_iast (z := 0) (pc2 := 31) dX12_emit_30 rfl (hK_324 hS) (by decide) (5 * i + 2) (by omega) (by omega) ?_
  refine r_iinc2 (z := 3) (pc2 := 34) dX12_emit_31 rfl rfl rfl ?_
  refine r_goto (tgt := 12) dX12_emit_34 (by decide) ?_
  refine r_iload2 (pc2 := 13) dX12_emit_12 rfl ?_
  refine r_iconst (pc2 := 14) dX12_emit_13 rfl ?_
  refine r_icge (tgt := 37) (pc2 := 17) dX12_emit_14 rfl (by decide) ⟨by omega, by omega⟩ ⟨by omega, by omega⟩ (fun h9 => absurd h9 (by decide)) (fun _ => ?_)
  refine r_aload0 (pc2 := 18) dX12_emit_17 rfl ?_
  refine r_getR (pc2 := 21) dX12_emit_18 rfl fX12_74 (hK_317 hS) (hR_317_12 hS) ?_
  refine r_iconst (pc2 := 22) dX12_emit_21 rfl ?_
  refine r_aload0 (pc2 := 23) dX12_emit_22 rfl ?_
  refine r_getI (z := ((i : Nat) : Int)) (pc2 := 26) dX12_emit_23 rfl (Or.inl fX12_198) (hK_317 hS) hi ?_
  refine r_imul (c := ((5 * i : Nat) : Int)) (pc2 := 27) dX12_emit_26 rfl (by omega) ?_
  refine r_iload2 (pc2 := 28) dX12_emit_27 rfl ?_
  refine r_iadd (c := (((5 * i : Nat) : Int) + 3)) (pc2 := 29) dX12_emit_28 rfl rfl ?_
  refine r_iconst (pc2 := 30) dX12_emit_29 rfl ?_
  refine r_iast (z := 0) (pc2 := 31) dX12_emit_30 rfl (hK_324 hS) (by decide) (5 * i + 3) (by omega) (by omega) ?_
  refine r_iinc2 (z := 4) (pc2 := 34) dX12_emit_31 rfl rfl rfl ?_
  refine r_goto (tgt := 12) dX12_emit_34 (by decide) ?_
  refine r_iload2 (pc2 := 13) dX12_emit_12 rfl ?_
  refine r_iconst (pc2 := 14) dX12_emit_13 rfl ?_
  refine r_icge (tgt := 37) (pc2 := 17) dX12_emit_14 rfl (by decide) ⟨by omega, by omega⟩ ⟨by omega, by omega⟩ (fun h9 => absurd h9 (by decide)) (fun _ => ?_)
  refine r_aload0 (pc2 := 18) dX12_emit_17 rfl ?_
  refine r_getR (pc2 := 21) dX12_emit_18 rfl fX12_74 (hK_317 hS) (hR_317_12 hS) ?_
  refine r_iconst (pc2 := 22) dX12_emit_21 rfl ?_
  refine r_aload0 (pc2 := 23) dX12_emit_22 rfl ?_
  refine r_getI (z := ((i : Nat) : Int)) (pc2 := 26) dX12_emit_23 rfl (Or.inl fX12_198) (hK_317 hS) hi ?_
  refine r_imul (c := ((5 * i : Nat) : Int)) (pc2 := 27) dX12_emit_26 rfl (by omega) ?_
  refine r_iload2 (pc2 := 28) dX12_emit_27 rfl ?_
  refine r_iadd (c := (((5 * i : Nat) : Int) + 4)) (pc2 := 29) dX12_emit_28 rfl rfl ?_
  refine r_iconst (pc2 := 30) dX12_emit_29 rfl ?_
  refine r_iast (z := 0) (pc2 := 31) dX12_emit_30 rfl (hK_324 hS) (by decide) (5 * i + 4) (by omega) (by omega) ?_
  refine r_iinc2 (z := 5) (pc2 := 34) dX12_emit_31 rfl rfl rfl ?_
  refine r_goto (tgt := 12) dX12_emit_34 (by decide) ?_
  refine r_iload2 (pc2 := 13) dX12_emit_12 rfl ?_
  refine r_iconst (pc2 := 14) dX12_emit_13 rfl ?_
  refine r_icge (tgt := 37) (pc2 := 17) dX12_emit_14 rfl (by decide) ⟨by omega, by omega⟩ ⟨by omega, by omega⟩ (fun _ => ?_) (fun h9 => absurd h9 (by decide))
  refine r_aload0 (pc2 := 38) dX12_emit_37 rfl ?_
  refine r_getR (pc2 := 41) dX12_emit_38 rfl fX12_77 (hK_317 hS) (hR_317_13 hS) ?_
  refine r_aload0 (pc2 := 42) dX12_emit_41 rfl ?_
  refine r_getI (z := ((i : Nat) : Int)) (pc2 := 45) dX12_emit_42 rfl (Or.inl fX12_198) (hK_317 hS) hi ?_
  refine r_aload0 (pc2 := 46) dX12_emit_45 rfl ?_
  refine r_getI (z := ((i : Nat) : Int)) (pc2 := 49) dX12_emit_46 rfl (Or.inl fX12_198) (hK_317 hS) hi ?_
  refine r_iconst (pc2 := 50) dX12_emit_49 rfl ?_
  refine r_iadd (c := (((i + 1) : Nat) : Int)) (pc2 := 51) dX12_emit_50 rfl (by omega) ?_
  refine r_iast (z := (((i + 1) : Nat) : Int)) (pc2 := 52) dX12_emit_51 rfl (hK_325 hS) (by decide) i rfl (by omega) ?_
  refine r_aload0 (pc2 := 53) dX12_emit_52 rfl ?_
  refine r_dup (pc2 := 54) dX12_emit_53 rfl rfl ?_
  refine r_getI (z := ((i : Nat) : Int)) (pc2 := 57) dX12_emit_54 rfl (Or.inl fX12_198) (hK_317 hS) hi ?_
  refine r_iconst (pc2 := 58) dX12_emit_57 rfl ?_
  refine r_iadd (c := (((i + 1) : Nat) : Int)) (pc2 := 59) dX12_emit_58 rfl (by omega) ?_
  refine r_putI (z := (((i + 1) : Nat) : Int)) (pc2 := 62) dX12_emit_59 rfl fX12_198 (w12_10 _) (hK_317 hS) (by decide) ?_
  refine r_aload0 (pc2 := 63) dX12_emit_62 rfl ?_
  refine r_getI (z := (((i + 1) : Nat) : Int)) (pc2 := 66) dX12_emit_63 rfl (Or.inl fX12_198) (hK_317 hS) rfl ?_
  refine r_iconst (pc2 := 67) dX12_emit_66 rfl ?_
  refine r_isub (c := ((i : Nat) : Int)) (pc2 := 68) dX12_emit_67 rfl (by omega) ?_
  refine r_ireti dX12_emit_68 rfl ?_
  exact ⟨rfl, rfl⟩
