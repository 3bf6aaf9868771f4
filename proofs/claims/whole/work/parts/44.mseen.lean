/-! the model's table: first 338, second 339, from 340, by 341, table 342; found is field 38 of 317 -/
def occM (M : pM) (c : Nat) : Option Nat := if M.2.1 342 c ≤ 0 then none else some (M.2.1 342 c - 1).toNat
def TN (M : pM) (n : Nat) (A B : Nat → Int64) : Prop := M.2.1 317 38 = (n : Int) ∧ n ≤ 4000 ∧ (∀ i, i < n → M.2.2 338 i = A i ∧ M.2.2 339 i = B i) ∧ (∀ c, c < 8192 → 0 ≤ M.2.1 342 c ∧ M.2.1 342 c ≤ (n : Int)) ∧ HI (occM M) n A B hM
theorem occM_some {M : pM} {c i : Nat} (h : occM M c = some i) : M.2.1 342 c = (i : Int) + 1 := by
  unfold occM at h
  split at h
  · cases h
  · cases h; omega
theorem occM_pos {M : pM} {c : Nat} (h : 0 < M.2.1 342 c) : occM M c = some (M.2.1 342 c - 1).toNat := if_neg (by omega)
theorem occM_none {M : pM} {c : Nat} (h : M.2.1 342 c ≤ 0) : occM M c = none := if_pos h
set_option maxHeartbeats 4000000 in
theorem lp_X12_placeIn {d : Nat} {Q : pQ} {a b : Int64} {M : pM} {n : Nat} {A B : Nat → Int64} (hS : sOk M.1) (hN : TN M n A B) (hQ : ∀ t, t < 8192 → HW (occM M) A B (hM a b) t a b → (occM M ((hM a b + t) % 8192) = none ∨ ∃ i, occM M ((hM a b + t) % 8192) = some i ∧ A i = a ∧ B i = b) → Q (some (.int (iI (((hM a b + t) % 8192 : Nat) : Int)))) M) :
    ∀ (m u : Nat), u + m = 8192 → HW (occM M) A B (hM a b) u a b → Go (Ct d) Q yX12_placeIn cX12_placeIn (some .int) 0 0 25 [some (.ref 317), some (.long a), none, some (.long b), none, some (.long ((a * (31) + b) * (2654435761))), none, some (.int (iI (((hM a b + u) % 8192 : Nat) : Int)))] [] M := by
  intro m
  induction m with
  | zero =>
    intro u hu hw
    exact absurd (HW.free hN.2.2.2.2 (by have := hN.2.1; omega) hw) (by omega)
  | succ m ih =>
    intro u hu hw
    have hN2 := hN
    obtain ⟨s1, s2, s3, s4, s6⟩ := hN
    have hcl : (hM a b + u) % 8192 < 8192 := Nat.mod_lt _ (by decide)
    have q1 := s4 _ hcl
    refine r_aload0 (pc2 := 26) dX12_placeIn_25 rfl ?_
    refine r_getR (pc2 := 29) dX12_placeIn_26 rfl fX12_128 (hK_317 hS) (hR_317_39 hS) ?_
    refine r_iload7 (pc2 := 31) dX12_placeIn_29 rfl ?_
    refine r_iald (z := (M.2.1 342 ((hM a b + u) % 8192))) (pc2 := 32) dX12_placeIn_31 rfl (hK_342 hS) ((hM a b + u) % 8192) rfl (by omega) rfl ?_
    refine r_ifle (tgt := 86) (pc2 := 35) dX12_placeIn_32 rfl (by decide) ⟨by omega, by omega⟩ (fun b_32 => ?_) (fun b_32 => ?_)
    · refine r_iload7 (pc2 := 88) dX12_placeIn_86 rfl ?_
      refine r_ireti dX12_placeIn_88 rfl ?_
      exact hQ u (by omega) hw (Or.inl (occM_none b_32))
    · refine r_aload0 (pc2 := 36) dX12_placeIn_35 rfl ?_
      refine r_getR (pc2 := 39) dX12_placeIn_36 rfl fX12_116 (hK_317 hS) (hR_317_34 hS) ?_
      refine r_aload0 (pc2 := 40) dX12_placeIn_39 rfl ?_
      refine r_getR (pc2 := 43) dX12_placeIn_40 rfl fX12_128 (hK_317 hS) (hR_317_39 hS) ?_
      refine r_iload7 (pc2 := 45) dX12_placeIn_43 rfl ?_
      refine r_iald (z := (M.2.1 342 ((hM a b + u) % 8192))) (pc2 := 46) dX12_placeIn_45 rfl (hK_342 hS) ((hM a b + u) % 8192) rfl (by omega) rfl ?_
      refine r_iconst (pc2 := 47) dX12_placeIn_46 rfl ?_
      refine r_isub (c := ((M.2.1 342 ((hM a b + u) % 8192)) - 1)) (pc2 := 48) dX12_placeIn_47 rfl rfl ?_
      refine r_lald (z := (M.2.2 338 (M.2.1 342 ((hM a b + u) % 8192) - 1).toNat)) (pc2 := 49) dX12_placeIn_48 rfl (hK_338 hS) (M.2.1 342 ((hM a b + u) % 8192) - 1).toNat (by omega) (by omega) rfl ?_
      refine r_lload1 (pc2 := 50) dX12_placeIn_49 rfl ?_
      refine r_lcmp (pc2 := 51) dX12_placeIn_50 rfl ?_
      have lr50 := lcm_r ((M.2.2 338 (M.2.1 342 ((hM a b + u) % 8192) - 1).toNat)) (a)
      rw [lg_iI]
      refine r_ifne (tgt := 73) (pc2 := 54) dX12_placeIn_51 rfl (by decide) ⟨by omega, by omega⟩ (fun b_51 => ?_) (fun b_51 => ?_)
      · refine r_iload7 (pc2 := 75) dX12_placeIn_73 rfl ?_
        refine r_iconst (pc2 := 76) dX12_placeIn_75 rfl ?_
        refine r_iadd (c := ((((hM a b + u) % 8192 : Nat) : Int) + 1)) (pc2 := 77) dX12_placeIn_76 rfl rfl ?_
        refine r_sipush (pc2 := 80) dX12_placeIn_77 rfl (by decide) (by decide) ?_
        refine r_irem (pc2 := 81) dX12_placeIn_80 rfl (by omega) (by omega) (by omega) (by omega) ?_
        refine r_istore7 (pc2 := 83) dX12_placeIn_81 rfl rfl ?_
        refine r_goto (tgt := 25) dX12_placeIn_83 (by decide) ?_
        have ho := occM_pos b_32
        have o3 := s3 (M.2.1 342 ((hM a b + u) % 8192) - 1).toNat (by omega)
        rw [o3.1] at lr50 b_51
        rw [show ((((hM a b + u) % 8192 : Nat) : Int) + 1) % 8192 = (((hM a b + (u + 1)) % 8192 : Nat) : Int) by omega]
        refine ih (u + 1) (by omega) (fun z hz => ?_)
        by_cases e9 : z = u
        · subst e9; exact ⟨_, ho, fun h => b_51 (lr50.2.2.mpr h.1)⟩
        · exact hw z (by omega)
      · refine r_aload0 (pc2 := 55) dX12_placeIn_54 rfl ?_
        refine r_getR (pc2 := 58) dX12_placeIn_55 rfl fX12_119 (hK_317 hS) (hR_317_35 hS) ?_
        refine r_aload0 (pc2 := 59) dX12_placeIn_58 rfl ?_
        refine r_getR (pc2 := 62) dX12_placeIn_59 rfl fX12_128 (hK_317 hS) (hR_317_39 hS) ?_
        refine r_iload7 (pc2 := 64) dX12_placeIn_62 rfl ?_
        refine r_iald (z := (M.2.1 342 ((hM a b + u) % 8192))) (pc2 := 65) dX12_placeIn_64 rfl (hK_342 hS) ((hM a b + u) % 8192) rfl (by omega) rfl ?_
        refine r_iconst (pc2 := 66) dX12_placeIn_65 rfl ?_
        refine r_isub (c := ((M.2.1 342 ((hM a b + u) % 8192)) - 1)) (pc2 := 67) dX12_placeIn_66 rfl rfl ?_
        refine r_lald (z := (M.2.2 339 (M.2.1 342 ((hM a b + u) % 8192) - 1).toNat)) (pc2 := 68) dX12_placeIn_67 rfl (hK_339 hS) (M.2.1 342 ((hM a b + u) % 8192) - 1).toNat (by omega) (by omega) rfl ?_
        refine r_lload3 (pc2 := 69) dX12_placeIn_68 rfl ?_
        refine r_lcmp (pc2 := 70) dX12_placeIn_69 rfl ?_
        have lr69 := lcm_r ((M.2.2 339 (M.2.1 342 ((hM a b + u) % 8192) - 1).toNat)) (b)
        rw [lg_iI]
        refine r_ifeq (tgt := 86) (pc2 := 73) dX12_placeIn_70 rfl (by decide) ⟨by omega, by omega⟩ (fun b_70 => ?_) (fun b_70 => ?_)
        · refine r_iload7 (pc2 := 88) dX12_placeIn_86 rfl ?_
          refine r_ireti dX12_placeIn_88 rfl ?_
          have ho := occM_pos b_32
          have o3 := s3 (M.2.1 342 ((hM a b + u) % 8192) - 1).toNat (by omega)
          rw [o3.1] at lr50 b_51
          rw [o3.2] at lr69 b_70
          exact hQ u (by omega) hw (Or.inr ⟨_, ho, lr50.2.2.mp b_51, lr69.2.2.mp b_70⟩)
        · refine r_iload7 (pc2 := 75) dX12_placeIn_73 rfl ?_
          refine r_iconst (pc2 := 76) dX12_placeIn_75 rfl ?_
          refine r_iadd (c := ((((hM a b + u) % 8192 : Nat) : Int) + 1)) (pc2 := 77) dX12_placeIn_76 rfl rfl ?_
          refine r_sipush (pc2 := 80) dX12_placeIn_77 rfl (by decide) (by decide) ?_
          refine r_irem (pc2 := 81) dX12_placeIn_80 rfl (by omega) (by omega) (by omega) (by omega) ?_
          refine r_istore7 (pc2 := 83) dX12_placeIn_81 rfl rfl ?_
          refine r_goto (tgt := 25) dX12_placeIn_83 (by decide) ?_
          have ho := occM_pos b_32
          have o3 := s3 (M.2.1 342 ((hM a b + u) % 8192) - 1).toNat (by omega)
          rw [o3.2] at lr69 b_70
          rw [show ((((hM a b + u) % 8192 : Nat) : Int) + 1) % 8192 = (((hM a b + (u + 1)) % 8192 : Nat) : Int) by omega]
          refine ih (u + 1) (by omega) (fun z hz => ?_)
          by_cases e9 : z = u
          · subst e9; exact ⟨_, ho, fun h => b_70 (lr69.2.2.mpr h.2)⟩
          · exact hw z (by omega)
set_option maxHeartbeats 4000000 in
theorem c_X12_placeIn {d : Nat} {M : pM} {a b : Int64} {n : Nat} {A B : Nat → Int64} (hS : sOk M.1) (hN : TN M n A B) : Ct (d + 1) 0 0 yX12_placeIn [.ref 317, .long (a), .long (b)] M (fun v M2 => ∃ t, t < 8192 ∧ v = some (.int (iI (((hM a b + t) % 8192 : Nat) : Int))) ∧ M2 = M ∧ HW (occM M) A B (hM a b) t a b ∧ (occM M ((hM a b + t) % 8192) = none ∨ ∃ i, occM M ((hM a b + t) % 8192) = some i ∧ A i = a ∧ B i = b)) := by
  refine ct_in (d := d) kX12_placeIn rfl (by decide) (Nat.le_of_ble_eq_true rfl) (by decide) ?_
  show Go (Ct d) _ yX12_placeIn cX12_placeIn (some .int) 0 0 0 [some (.ref 317), some (.long (a)), none, some (.long (b)), none, none, none, none] [] M
  refine r_lload1 (pc2 := 1) dX12_placeIn_0 rfl ?_
  refine r_ldc2 (pc2 := 4) dX12_placeIn_1 rfl lX12_327 ?_
  refine r_lmul (pc2 := 5) dX12_placeIn_4 rfl ?_
  refine r_lload3 (pc2 := 6) dX12_placeIn_5 rfl ?_
  refine r_ladd (pc2 := 7) dX12_placeIn_6 rfl ?_
  refine r_ldc2 (pc2 := 10) dX12_placeIn_7 rfl lX12_329 ?_
  refine r_lmul (pc2 := 11) dX12_placeIn_10 rfl ?_
  refine r_lstore5 (pc2 := 13) dX12_placeIn_11 rfl rfl ?_
  refine r_lload5 (pc2 := 15) dX12_placeIn_13 rfl ?_
  refine r_bipush (pc2 := 17) dX12_placeIn_15 rfl (by decide) (by decide) ?_
  refine r_lushr (pc2 := 18) dX12_placeIn_17 rfl ?_
  refine r_ldc2 (pc2 := 21) dX12_placeIn_18 rfl lX12_331 ?_
  refine r_land (pc2 := 22) dX12_placeIn_21 rfl ?_
  refine r_l2i (pc2 := 23) dX12_placeIn_22 rfl ?_
  rw [hM_e]
  show Go _ _ yX12_placeIn cX12_placeIn _ _ _ _ _ [.int (iI ((hM a b : Nat) : Int))] _
  refine r_istore7 (pc2 := 25) dX12_placeIn_23 rfl rfl ?_
  have hh := hM_lt a b
  rw [show ((hM a b : Nat) : Int) = (((hM a b + 0) % 8192 : Nat) : Int) by omega]
  exact lp_X12_placeIn (d := d) hS hN (fun t h1 h2 h3 => ⟨t, h1, rfl, rfl, h2, h3⟩) 8192 0 (by omega) (fun u hu => absurd hu (by omega))
set_option maxHeartbeats 4000000 in
theorem lp_X12_begins {d : Nat} {Q : pQ} (M0 : pM) (hS0 : sOk M0.1) (hQ : ∀ M2, fr [342] M0 M2 → (∀ i, i < 8192 → M2.2.1 342 i = 0) → Q none M2) :
    ∀ (m i : Nat) (M : pM), i + m = 8192 → fr [342] M0 M → (∀ k, k < i → M.2.1 342 k = 0) → Go (Ct d) Q yX12_begins cX12_begins none 0 0 7 [some (.ref 317), some (.int (iI ((i : Nat) : Int)))] [] M := by
  intro m
  induction m with
  | zero =>
    intro i M hm hfr h1
    have hS := hfr.ok hS0
    refine r_iload1 (pc2 := 8) dX12_begins_7 rfl ?_
    refine r_sipush (pc2 := 11) dX12_begins_8 rfl (by decide) (by decide) ?_
    refine r_icge (tgt := 27) (pc2 := 14) dX12_begins_11 rfl (by decide) ⟨by omega, by omega⟩ ⟨by omega, by omega⟩ (fun b_11 => ?_) (fun b_11 => ?_)
    · refine r_ret dX12_begins_27 rfl ?_
      exact hQ M hfr (fun k hk => h1 k (by omega))
    · exact absurd b_11 (by omega)
  | succ m ih =>
    intro i M hm hfr h1
    have hS := hfr.ok hS0
    refine r_iload1 (pc2 := 8) dX12_begins_7 rfl ?_
    refine r_sipush (pc2 := 11) dX12_begins_8 rfl (by decide) (by decide) ?_
    refine r_icge (tgt := 27) (pc2 := 14) dX12_begins_11 rfl (by decide) ⟨by omega, by omega⟩ ⟨by omega, by omega⟩ (fun b_11 => ?_) (fun b_11 => ?_)
    · refine r_ret dX12_begins_27 rfl ?_
      exact absurd b_11 (by omega)
    · refine r_aload0 (pc2 := 15) dX12_begins_14 rfl ?_
      refine r_getR (pc2 := 18) dX12_begins_15 rfl fX12_128 (hK_317 hS) (hR_317_39 hS) ?_
      refine r_iload1 (pc2 := 19) dX12_begins_18 rfl ?_
      refine r_iconst (pc2 := 20) dX12_begins_19 rfl ?_
      refine r_iast (z := 0) (pc2 := 21) dX12_begins_20 rfl (hK_342 hS) (by decide) i rfl (by omega) ?_
      refine r_iinc1 (z := ((i + 1 : Nat) : Int)) (pc2 := 24) dX12_begins_21 rfl (by omega) rfl ?_
      refine r_goto (tgt := 7) dX12_begins_24 (by decide) ?_
      refine ih (i + 1) _ (by omega) (hfr.I List.mem_cons_self) (fun k hk => ?_)
      by_cases e9 : k = i
      · subst e9; exact pI_at
      · rw [pI_nk e9]; exact h1 k (by omega)
set_option maxHeartbeats 4000000 in
theorem c_X12_begins {d : Nat} {M : pM} {A B : Nat → Int64} (hS : sOk M.1) : Ct (d + 1) 0 0 yX12_begins [.ref 317] M (fun v M2 => v = none ∧ fr [317, 342] M M2 ∧ M2.2.1 317 = va_up (M.2.1 317) 38 0 ∧ TN M2 0 A B) := by
  refine ct_in (d := d) kX12_begins rfl (by decide) (Nat.le_of_ble_eq_true rfl) (by decide) ?_
  show Go (Ct d) _ yX12_begins cX12_begins none 0 0 0 [some (.ref 317), none] [] M
  refine r_aload0 (pc2 := 1) dX12_begins_0 rfl ?_
  refine r_iconst (pc2 := 2) dX12_begins_1 rfl ?_
  refine r_putI (z := 0) (pc2 := 5) dX12_begins_2 rfl fX12_324 (w12_38 _) (hK_317 hS) (by decide) ?_
  refine r_iconst (pc2 := 6) dX12_begins_5 rfl ?_
  refine r_istore1 (pc2 := 7) dX12_begins_6 rfl rfl ?_
  refine lp_X12_begins (pI M 317 38 0) hS (fun M2 h1 h2 => ⟨rfl, fr.tr (l := [317, 342]) (M1 := pI M 317 38 0) (fr.I (l := [317, 342]) fr.rf (by decide)) (fr.mono (l2 := [317, 342]) h1 (by decide)), ?_, ?_⟩) 8192 0 _ (by omega) fr.rf (fun k hk => by omega)
  · rw [h1.i (by decide), pI_eq]
  · refine ⟨by rw [h1.i (by decide)]; exact pI_at, by omega, fun i hi => by omega, fun c hc => by rw [h2 c hc]; omega, HI.nil (fun c hc => occM_none (by rw [h2 c hc]; omega))⟩
theorem comes_TN {M : pM} {n t : Nat} {A B : Nat → Int64} {a b : Int64} {pr hp : Int} (hN : TN M n A B) (ht : t < 8192) (hw : HW (occM M) A B (hM a b) t a b) (ho : occM M ((hM a b + t) % 8192) = none) (hlt : n < 4000) :
    TN (pI (pI (pI (pJ (pJ (pI M 342 ((hM a b + t) % 8192) (((n : Nat) : Int) + 1)) 338 n a) 339 n b) 340 n pr) 341 n hp) 317 38 (((n : Nat) : Int) + 1)) (n + 1) (va_up A n a) (va_up B n b) := by
  obtain ⟨s1, s2, s3, s4, s6⟩ := hN
  have hcl : (hM a b + t) % 8192 < 8192 := Nat.mod_lt _ (by decide)
  generalize hce : (hM a b + t) % 8192 = e at *
  have e342 : ∀ c, ((pI (pI (pI (pJ (pJ (pI M 342 e (((n : Nat) : Int) + 1)) 338 n a) 339 n b) 340 n pr) 341 n hp) 317 38 (((n : Nat) : Int) + 1))).2.1 342 c = if c = e then ((n : Nat) : Int) + 1 else M.2.1 342 c := fun c => by
    show va_up (M.2.1 342) e (((n : Nat) : Int) + 1) c = _
    unfold va_up; rfl
  refine ⟨?_, by omega, fun i hi => ?_, fun c hc => ?_, ?_⟩
  · show ((n : Nat) : Int) + 1 = _; omega
  · show va_up (M.2.2 338) n a i = va_up A n a i ∧ va_up (M.2.2 339) n b i = va_up B n b i
    by_cases q : i = n
    · subst q; rw [up_at, up_at, up_at, up_at]; exact ⟨rfl, rfl⟩
    · rw [up_ne q, up_ne q, up_ne q, up_ne q]; exact s3 i (by omega)
  · rw [e342]; have := s4 c hc; split <;> omega
  · refine HI.add s6 ht hw (by rw [hce]; exact ho) (fun c hc => ?_)
    rw [hce]
    unfold occM
    rw [e342]
    by_cases hx : c = e
    · rw [if_pos hx, if_pos hx, if_neg (by omega), show (((n : Nat) : Int) + 1 - 1).toNat = n by omega]
    · rw [if_neg hx, if_neg hx]
set_option maxHeartbeats 4000000 in
theorem c_X12_comesUp {d : Nat} {M : pM} {a b : Int64} {n mo : Nat} {A B : Nat → Int64} {pr hp : Int} (hS : sOk M.1) (hN : TN M n A B) (hl : n ≤ mo ∧ mo ≤ 4000) : Ct (d + 2) 0 0 yX12_comesUp [.ref 317, .long (a), .long (b), .int (iI pr), .int (iI hp), .int (iI ((mo : Nat) : Int))] M (fun v M2 => ((∃ i, i < n ∧ A i = a ∧ B i = b) ∧ v = some (.int (iI 1)) ∧ M2 = M) ∨ ((¬ ∃ i, i < n ∧ A i = a ∧ B i = b) ∧ mo ≤ n ∧ v = some (.int (iI 0)) ∧ M2 = M) ∨ ((¬ ∃ i, i < n ∧ A i = a ∧ B i = b) ∧ n < mo ∧ v = some (.int (iI 1)) ∧ TN M2 (n + 1) (va_up A n a) (va_up B n b) ∧ fr [317, 338, 339, 340, 341, 342] M M2 ∧ M2.2.1 340 = va_up (M.2.1 340) n pr ∧ M2.2.1 341 = va_up (M.2.1 341) n hp ∧ M2.2.1 317 = va_up (M.2.1 317) 38 (((n : Nat) : Int) + 1))) := by
  refine ct_in (d := (d + 1)) kX12_comesUp rfl (by decide) (Nat.le_of_ble_eq_true rfl) (by decide) ?_
  show Go (Ct (d + 1)) _ yX12_comesUp cX12_comesUp (some .boolean) 0 0 0 [some (.ref 317), some (.long (a)), none, some (.long (b)), none, some (.int (iI pr)), some (.int (iI hp)), some (.int (iI ((mo : Nat) : Int))), none] [] M
  have hN2 := hN
  obtain ⟨s1, s2, s3, s4, s6⟩ := hN
  refine r_aload0 (pc2 := 1) dX12_comesUp_0 rfl ?_
  refine r_lload1 (pc2 := 2) dX12_comesUp_1 rfl ?_
  refine r_lload3 (pc2 := 3) dX12_comesUp_2 rfl ?_
  refine r_cv2 (pc2 := 6) dX12_comesUp_3 rfl vX12_333 (hK_317 hS) (by decide) (c_X12_placeIn (d := d) hS hN2) ?_
  rintro _ M9 ⟨t, ht, rfl, h9, hw, hor⟩
  rw [h9]
  have hcl : (hM a b + t) % 8192 < 8192 := Nat.mod_lt _ (by decide)
  have q1 := s4 _ hcl
  show Go (Ct (d + 1)) _ yX12_comesUp cX12_comesUp (some .boolean) 0 0 6 [some (.ref 317), some (.long (a)), none, some (.long (b)), none, some (.int (iI pr)), some (.int (iI hp)), some (.int (iI ((mo : Nat) : Int))), none] [.int (iI (((hM a b + t) % 8192 : Nat) : Int))] M
  refine r_istore8 (pc2 := 8) dX12_comesUp_6 rfl rfl ?_
  refine r_aload0 (pc2 := 9) dX12_comesUp_8 rfl ?_
  refine r_getR (pc2 := 12) dX12_comesUp_9 rfl fX12_128 (hK_317 hS) (hR_317_39 hS) ?_
  refine r_iload8 (pc2 := 14) dX12_comesUp_12 rfl ?_
  refine r_iald (z := (M.2.1 342 ((hM a b + t) % 8192))) (pc2 := 15) dX12_comesUp_14 rfl (hK_342 hS) ((hM a b + t) % 8192) rfl (by omega) rfl ?_
  refine r_ifle (tgt := 20) (pc2 := 18) dX12_comesUp_15 rfl (by decide) ⟨by omega, by omega⟩ (fun b_15 => ?_) (fun b_15 => ?_)
  · refine r_aload0 (pc2 := 21) dX12_comesUp_20 rfl ?_
    refine r_getI (z := ((n : Nat) : Int)) (pc2 := 24) dX12_comesUp_21 rfl (Or.inl fX12_324) (hK_317 hS) s1 ?_
    refine r_iload7 (pc2 := 26) dX12_comesUp_24 rfl ?_
    refine r_icne (tgt := 31) (pc2 := 29) dX12_comesUp_26 rfl (by decide) ⟨by omega, by omega⟩ ⟨by omega, by omega⟩ (fun b_26 => ?_) (fun b_26 => ?_)
    · refine r_aload0 (pc2 := 32) dX12_comesUp_31 rfl ?_
      refine r_getR (pc2 := 35) dX12_comesUp_32 rfl fX12_128 (hK_317 hS) (hR_317_39 hS) ?_
      refine r_iload8 (pc2 := 37) dX12_comesUp_35 rfl ?_
      refine r_aload0 (pc2 := 38) dX12_comesUp_37 rfl ?_
      refine r_getI (z := ((n : Nat) : Int)) (pc2 := 41) dX12_comesUp_38 rfl (Or.inl fX12_324) (hK_317 hS) s1 ?_
      refine r_iconst (pc2 := 42) dX12_comesUp_41 rfl ?_
      refine r_iadd (c := (((n : Nat) : Int) + 1)) (pc2 := 43) dX12_comesUp_42 rfl rfl ?_
      refine r_iast (z := (((n : Nat) : Int) + 1)) (pc2 := 44) dX12_comesUp_43 rfl (hK_342 hS) (by decide) ((hM a b + t) % 8192) rfl (by omega) ?_
      refine r_aload0 (pc2 := 45) dX12_comesUp_44 rfl ?_
      refine r_getR (pc2 := 48) dX12_comesUp_45 rfl fX12_116 (hK_317 hS) (hR_317_34 hS) ?_
      refine r_aload0 (pc2 := 49) dX12_comesUp_48 rfl ?_
      refine r_getI (z := ((n : Nat) : Int)) (pc2 := 52) dX12_comesUp_49 rfl (Or.inl fX12_324) (hK_317 hS) s1 ?_
      refine r_lload1 (pc2 := 53) dX12_comesUp_52 rfl ?_
      refine r_last (pc2 := 54) dX12_comesUp_53 rfl (hK_338 hS) (by decide) n rfl (by omega) ?_
      refine r_aload0 (pc2 := 55) dX12_comesUp_54 rfl ?_
      refine r_getR (pc2 := 58) dX12_comesUp_55 rfl fX12_119 (hK_317 hS) (hR_317_35 hS) ?_
      refine r_aload0 (pc2 := 59) dX12_comesUp_58 rfl ?_
      refine r_getI (z := ((n : Nat) : Int)) (pc2 := 62) dX12_comesUp_59 rfl (Or.inl fX12_324) (hK_317 hS) s1 ?_
      refine r_lload3 (pc2 := 63) dX12_comesUp_62 rfl ?_
      refine r_last (pc2 := 64) dX12_comesUp_63 rfl (hK_339 hS) (by decide) n rfl (by omega) ?_
      refine r_aload0 (pc2 := 65) dX12_comesUp_64 rfl ?_
      refine r_getR (pc2 := 68) dX12_comesUp_65 rfl fX12_122 (hK_317 hS) (hR_317_36 hS) ?_
      refine r_aload0 (pc2 := 69) dX12_comesUp_68 rfl ?_
      refine r_getI (z := ((n : Nat) : Int)) (pc2 := 72) dX12_comesUp_69 rfl (Or.inl fX12_324) (hK_317 hS) s1 ?_
      refine r_iload5 (pc2 := 74) dX12_comesUp_72 rfl ?_
      refine r_iast (z := pr) (pc2 := 75) dX12_comesUp_74 rfl (hK_340 hS) (by decide) n rfl (by omega) ?_
      refine r_aload0 (pc2 := 76) dX12_comesUp_75 rfl ?_
      refine r_getR (pc2 := 79) dX12_comesUp_76 rfl fX12_125 (hK_317 hS) (hR_317_37 hS) ?_
      refine r_aload0 (pc2 := 80) dX12_comesUp_79 rfl ?_
      refine r_getI (z := ((n : Nat) : Int)) (pc2 := 83) dX12_comesUp_80 rfl (Or.inl fX12_324) (hK_317 hS) s1 ?_
      refine r_iload6 (pc2 := 85) dX12_comesUp_83 rfl ?_
      refine r_iast (z := hp) (pc2 := 86) dX12_comesUp_85 rfl (hK_341 hS) (by decide) n rfl (by omega) ?_
      refine r_aload0 (pc2 := 87) dX12_comesUp_86 rfl ?_
      refine r_dup (pc2 := 88) dX12_comesUp_87 rfl rfl ?_
      refine r_getI (z := ((n : Nat) : Int)) (pc2 := 91) dX12_comesUp_88 rfl (Or.inl fX12_324) (hK_317 hS) s1 ?_
      refine r_iconst (pc2 := 92) dX12_comesUp_91 rfl ?_
      refine r_iadd (c := (((n : Nat) : Int) + 1)) (pc2 := 93) dX12_comesUp_92 rfl rfl ?_
      refine r_putI (z := (((n : Nat) : Int) + 1)) (pc2 := 96) dX12_comesUp_93 rfl fX12_324 (w12_38 _) (hK_317 hS) (by decide) ?_
      refine r_iconst (pc2 := 97) dX12_comesUp_96 rfl ?_
      refine r_iretz dX12_comesUp_97 rfl (by omega) ?_
      have ho := occM_none b_15
      have hno := HW.none s6 hw ho
      refine Or.inr (Or.inr ⟨hno, by omega, rfl, comes_TN hN2 ht hw ho (by omega), ?_, ?_, ?_, ?_⟩)
      · refine ((((((fr.rf).I (by decide)).J (by decide)).J (by decide)).I (by decide)).I (by decide)).I (by decide)
      · rfl
      · rfl
      · rfl
    · refine r_iconst (pc2 := 30) dX12_comesUp_29 rfl ?_
      refine r_iretz dX12_comesUp_30 rfl (by omega) ?_
      have ho := occM_none b_15
      have hno := HW.none s6 hw ho
      exact Or.inr (Or.inl ⟨hno, by omega, rfl, rfl⟩)
  · refine r_iconst (pc2 := 19) dX12_comesUp_18 rfl ?_
    refine r_iretz dX12_comesUp_19 rfl (by omega) ?_
    have ho := occM_pos b_15
    rcases hor with q | ⟨j, q1, q2, q3⟩
    · rw [ho] at q; cases q
    · have := s6.1 _ _ hcl q1
      exact Or.inl ⟨⟨j, this, q2, q3⟩, rfl, rfl⟩
