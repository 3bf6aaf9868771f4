/-! the law: hopper and tries, the loop, the start -/
/-- some new cells, of no kind -/
def NG (M M3 : pM) : Prop := SB M M3 M.1.1 ∧ M.1.1 ≤ M3.1.1
theorem INV.ng {c : Nat} {M M3 : pM} (h : INV c M) (g : NG M M3) : INV c M3 := by
  obtain ⟨h1, h2, h3⟩ := h.1
  refine h.of ⟨fun a q1 q2 => ?_, fun a k q1 q2 => ?_, by have := g.2; omega⟩ (fun a q1 q2 => (g.1 a (by omega)).2.2)
  · rw [(g.1 a (by omega)).1]; exact h1 a q1 q2
  · rw [(g.1 a (by omega)).2.1]; exact h2 a k q1 q2
def lwH (C : pCt) : Prop := (∀ (M : pM) (x y : Int32) (Q1 : pQ), sOk M.1 → Ct 340 0 0 yX11_hopper [.ref 2, .int x, .int y] M Q1 → (∀ v M2, Q1 v M2 → sOk M2.1 ∧ ∃ x, v = some (.int x)) → C 0 0 yL_hopper [.ref 2, .int x, .int y, .ref 351] M (fun v M3 => ∃ M2 x, Q1 (some (.int x)) M2 ∧ M3 = pJ M2 351 0 x.toInt64 ∧ v = some (.int (iI 0)))) ∧
  (∀ (M : pM) (z w : Int), sOk M.1 → inR z → inR w → ¬ ((0 ≤ z ∧ z < 4) ∧ 0 ≤ w ∧ w ≤ 2) → C 1 6 yL_hopper [.ref 2, .int (iI z), .int (iI w), .ref 351] M (fun v M3 => NG M M3 ∧ v = some (.int (iI 1))))
def lwR (C : pCt) : Prop := (∀ (M : pM) (x : Int32) (Q1 : pQ), sOk M.1 → Ct 340 0 0 yX11_tries [.ref 2, .int x] M Q1 → (∀ v M2, Q1 v M2 → sOk M2.1 ∧ ∃ x, v = some (.int x)) → C 0 0 yL_tries [.ref 2, .int x, .ref 351] M (fun v M3 => ∃ M2 x, Q1 (some (.int x)) M2 ∧ M3 = pJ M2 351 0 x.toInt64 ∧ v = some (.int (iI 0)))) ∧
  (∀ (M : pM) (z : Int), sOk M.1 → inR z → ¬ (0 ≤ z ∧ z < 4) → C 1 6 yL_tries [.ref 2, .int (iI z), .ref 351] M (fun v M3 => NG M M3 ∧ v = some (.int (iI 1))))
theorem cmp_0 (u : Int64) : lg_cmp u u = iI 0 := by unfold lg_cmp; simp; rfl
set_option maxHeartbeats 4000000 in
theorem lc_hopper {C : pCt} {Q : pQ} {M : pM} {c m L : Nat} {l5 l6 : Option Value} {sc : Nat → Int} (hC : ∀ kc ks z as M Q, Ct 340 kc ks z as M Q → C kc ks z as M Q) (hb : lwB sc c L M) (tail : lwT C Q sc c m L) (hH : lwH C) : Go C Q yL_law cL_law (some .boolean) (m + 1) (6 * m + 6) 453 [some (.ref 0), some (.ref 2), some (.ref 317), some (.ref 351), some (.int (iI ((7 * c : Nat) : Int))), l5, l6] [] M := by
  obtain ⟨hi, hc, hk, hz, hr, hL, hL2⟩ := hb
  have hS := hi.1
  by_cases u : (0 ≤ sc (7 * c + 1) ∧ sc (7 * c + 1) < 4) ∧ 0 ≤ sc (7 * c + 2) ∧ sc (7 * c + 2) ≤ 2
  · obtain ⟨h, eh⟩ : ∃ h : Nat, sc (7 * c + 1) = (h : Int) := ⟨(sc (7 * c + 1)).toNat, by omega⟩
    have hh : h < 4 := by omega
    obtain ⟨z, hz9⟩ := pr_hopper (h := h) (w := sc (7 * c + 2)) hi hh u.2
    rw [← eh] at hz9
    refine r_aload1 (pc2 := 454) dL_law_453 rfl ?_
    refine r_aload0 (pc2 := 455) dL_law_454 rfl ?_
    refine r_iload4 (pc2 := 457) dL_law_455 rfl ?_
    refine r_iconst (pc2 := 458) dL_law_457 rfl ?_
    refine r_iadd (c := ((7 * c + 1 : Nat) : Int)) (pc2 := 459) dL_law_458 rfl (by omega) ?_
    refine r_sald (z := sc (7 * c + 1)) (pc2 := 460) dL_law_459 rfl hk (7 * c + 1) rfl (by omega) (by rw [hz]) ?_
    refine r_aload0 (pc2 := 461) dL_law_460 rfl ?_
    refine r_iload4 (pc2 := 463) dL_law_461 rfl ?_
    refine r_iconst (pc2 := 464) dL_law_463 rfl ?_
    refine r_iadd (c := ((7 * c + 2 : Nat) : Int)) (pc2 := 465) dL_law_464 rfl (by omega) ?_
    refine r_sald (z := sc (7 * c + 2)) (pc2 := 466) dL_law_465 rfl hk (7 * c + 2) rfl (by omega) (by rw [hz]) ?_
    refine r_aload3 (pc2 := 467) dL_law_466 rfl ?_
    refine go_invS (kc := m + 1) (ks := 6 * m + 6) (kc2 := 0) (ks2 := 0) (as := [.ref 2, .int (iI (sc (7 * c + 1))), .int (iI (sc (7 * c + 2))), .ref 351]) dL_law_467 sL_56 rfl (Nat.le_of_ble_eq_true rfl) (hH.1 M _ _ _ hS hz9 (fun v M2 q => ⟨q.2.1.1, _, q.1⟩)) ?_
    rintro _ M3 ⟨M2, y, ⟨ey, i2, s2, hm⟩, e3, rfl⟩
    have ey : y = iI z := by injection (Option.some.inj ey)
    subst ey
    have hS3 : sOk M3.1 := by rw [e3]; exact i2.1
    have hk3 : M3.1.2.1 0 = (8, L) := by rw [e3]; show M2.1.2.1 0 = _; rw [s2.1]; exact hk
    have hz3 : M3.2.1 0 = sc := by rw [e3]; exact s2.2.trans hz
    refine r_istore5 (pc2 := 472) dL_law_470 rfl rfl ?_
    refine r_aload2 (pc2 := 473) dL_law_472 rfl ?_
    refine r_aload0 (pc2 := 474) dL_law_473 rfl ?_
    refine r_iload4 (pc2 := 476) dL_law_474 rfl ?_
    refine r_iconst (pc2 := 477) dL_law_476 rfl ?_
    refine r_iadd (c := ((7 * c + 1 : Nat) : Int)) (pc2 := 478) dL_law_477 rfl (by omega) ?_
    refine r_sald (z := sc (7 * c + 1)) (pc2 := 479) dL_law_478 rfl hk3 (7 * c + 1) rfl (by omega) (by rw [hz3]) ?_
    refine r_aload0 (pc2 := 480) dL_law_479 rfl ?_
    refine r_iload4 (pc2 := 482) dL_law_480 rfl ?_
    refine r_iconst (pc2 := 483) dL_law_482 rfl ?_
    refine r_iadd (c := ((7 * c + 2 : Nat) : Int)) (pc2 := 484) dL_law_483 rfl (by omega) ?_
    refine r_sald (z := sc (7 * c + 2)) (pc2 := 485) dL_law_484 rfl hk3 (7 * c + 2) rfl (by omega) (by rw [hz3]) ?_
    rw [e3] at hS3 hk3 hz3 ⊢
    refine r_cv2 (pc2 := 488) dL_law_485 rfl vL_61 (hK_317 hS3) (Nat.le_of_ble_eq_true rfl) (hC _ _ _ _ _ _ (hm (iI z).toInt64)) ?_
    rintro _ M4 ⟨rfl, i4, s4, t4, o4⟩
    have hS4 := i4.1
    refine r_istore6 (pc2 := 490) dL_law_488 rfl rfl ?_
    refine r_aload2 (pc2 := 491) dL_law_490 rfl ?_
    refine r_cv0 (pc2 := 494) dL_law_491 rfl vL_62 (hK_317 hS4) (Nat.le_of_ble_eq_true rfl) (hC _ _ _ _ _ _ (Ct_le (d := 1) (by decide) (c_X12_thrown (d := 0) hS4 t4))) ?_
    rintro _ M5 ⟨rfl, e5⟩
    rw [e5]
    refine r_iload5 (pc2 := 496) dL_law_494 rfl ?_
    refine go_if2 (tgt := 501) dL_law_496 (by decide) (fun _ => ?_) (fun q => absurd rfl q)
    refine r_iload5 (pc2 := 503) dL_law_501 rfl ?_
    refine r_ifne (tgt := 518) (pc2 := 506) dL_law_503 rfl (by decide) ⟨by omega, by omega⟩ (fun h => absurd rfl h) (fun _ => ?_)
    refine r_aload3 (pc2 := 507) dL_law_506 rfl ?_
    refine r_iconst (pc2 := 508) dL_law_507 rfl ?_
    refine r_lald (z := (iI z).toInt64) (pc2 := 509) dL_law_508 rfl (hK_351 hS4) 0 rfl (by decide) o4 ?_
    refine r_iload6 (pc2 := 511) dL_law_509 rfl ?_
    refine go_op2 dL_law_511 (Or.inr (Or.inr (Or.inl ⟨iI z, _, rfl, rfl, rfl⟩))) ?_
    refine r_lcmp (pc2 := 513) dL_law_512 rfl ?_
    rw [cmp_0]
    refine r_ifeq (tgt := 518) (pc2 := 516) dL_law_513 rfl (by decide) ⟨by omega, by omega⟩ (fun _ => ?_) (fun h => absurd rfl h)
    refine r_goto (tgt := 1026) dL_law_518 (by decide) ?_
    exact tail.a i4.up s4 hk hz
  · skip
    refine r_aload1 (pc2 := 454) dL_law_453 rfl ?_
    refine r_aload0 (pc2 := 455) dL_law_454 rfl ?_
    refine r_iload4 (pc2 := 457) dL_law_455 rfl ?_
    refine r_iconst (pc2 := 458) dL_law_457 rfl ?_
    refine r_iadd (c := ((7 * c + 1 : Nat) : Int)) (pc2 := 459) dL_law_458 rfl (by omega) ?_
    refine r_sald (z := sc (7 * c + 1)) (pc2 := 460) dL_law_459 rfl hk (7 * c + 1) rfl (by omega) (by rw [hz]) ?_
    refine r_aload0 (pc2 := 461) dL_law_460 rfl ?_
    refine r_iload4 (pc2 := 463) dL_law_461 rfl ?_
    refine r_iconst (pc2 := 464) dL_law_463 rfl ?_
    refine r_iadd (c := ((7 * c + 2 : Nat) : Int)) (pc2 := 465) dL_law_464 rfl (by omega) ?_
    refine r_sald (z := sc (7 * c + 2)) (pc2 := 466) dL_law_465 rfl hk (7 * c + 2) rfl (by omega) (by rw [hz]) ?_
    refine r_aload3 (pc2 := 467) dL_law_466 rfl ?_
    refine go_invS (kc := m) (ks := 6 * m) (kc2 := 1) (ks2 := 6) (as := [.ref 2, .int (iI (sc (7 * c + 1))), .int (iI (sc (7 * c + 2))), .ref 351]) dL_law_467 sL_56 rfl (Nat.le_of_ble_eq_true rfl) (hH.2 M _ _ hS (hr _) (hr _) u) ?_
    rintro _ M2 ⟨e2, rfl⟩
    have i2 : INV c M2 := hi.ng e2
    have hS2 := i2.1
    have hk2 : M2.1.2.1 0 = (8, L) := ((e2.1 0 (by have := hS.2.2; omega)).1).trans hk
    have hz2 : M2.2.1 0 = sc := ((e2.1 0 (by have := hS.2.2; omega)).2.2.1).trans hz
    refine r_istore5 (pc2 := 472) dL_law_470 rfl rfl ?_
    refine r_aload2 (pc2 := 473) dL_law_472 rfl ?_
    refine r_aload0 (pc2 := 474) dL_law_473 rfl ?_
    refine r_iload4 (pc2 := 476) dL_law_474 rfl ?_
    refine r_iconst (pc2 := 477) dL_law_476 rfl ?_
    refine r_iadd (c := ((7 * c + 1 : Nat) : Int)) (pc2 := 478) dL_law_477 rfl (by omega) ?_
    refine r_sald (z := sc (7 * c + 1)) (pc2 := 479) dL_law_478 rfl hk2 (7 * c + 1) rfl (by omega) (by rw [hz2]) ?_
    refine r_aload0 (pc2 := 480) dL_law_479 rfl ?_
    refine r_iload4 (pc2 := 482) dL_law_480 rfl ?_
    refine r_iconst (pc2 := 483) dL_law_482 rfl ?_
    refine r_iadd (c := ((7 * c + 2 : Nat) : Int)) (pc2 := 484) dL_law_483 rfl (by omega) ?_
    refine r_sald (z := sc (7 * c + 2)) (pc2 := 485) dL_law_484 rfl hk2 (7 * c + 2) rfl (by omega) (by rw [hz2]) ?_
    refine r_cv2 (pc2 := 488) dL_law_485 rfl vL_61 (hK_317 hS2) (Nat.le_of_ble_eq_true rfl) (hC _ _ _ _ _ _ (Ct_le (d := 2) (by decide) (c_X12_hopperX (d := 0) hS2 (hr _) (hr _) u))) ?_
    rintro _ M3 ⟨rfl, e3⟩
    rw [e3]
    have i3 : INV c (pI M2 317 0 1) := i2.th
    refine r_istore6 (pc2 := 490) dL_law_488 rfl rfl ?_
    refine r_aload2 (pc2 := 491) dL_law_490 rfl ?_
    refine r_cv0 (pc2 := 494) dL_law_491 rfl vL_62 (hK_317 hS2) (Nat.le_of_ble_eq_true rfl) (hC _ _ _ _ _ _ (Ct_le (d := 1) (by decide) (c_X12_thrown (d := 0) (M := pI M2 317 0 1) hS2 pI_at))) ?_
    rintro _ M5 ⟨rfl, e5⟩
    rw [e5]
    refine r_iload5 (pc2 := 496) dL_law_494 rfl ?_
    refine go_if2 (tgt := 501) dL_law_496 (by decide) (fun _ => ?_) (fun q => absurd rfl q)
    refine r_iload5 (pc2 := 503) dL_law_501 rfl ?_
    refine r_ifne (tgt := 518) (pc2 := 506) dL_law_503 rfl (by decide) ⟨by omega, by omega⟩ (fun _ => ?_) (fun h => absurd h (by decide))
    refine r_goto (tgt := 1026) dL_law_518 (by decide) ?_
    exact tail _ _ _ i3.up hk2 ((pI_ne (by decide)).trans hz2)
set_option maxHeartbeats 4000000 in
theorem lc_tries {C : pCt} {Q : pQ} {M : pM} {c m L : Nat} {l5 l6 : Option Value} {sc : Nat → Int} (hC : ∀ kc ks z as M Q, Ct 340 kc ks z as M Q → C kc ks z as M Q) (hb : lwB sc c L M) (tail : lwT C Q sc c m L) (hH : lwR C) : Go C Q yL_law cL_law (some .boolean) (m + 1) (6 * m + 6) 945 [some (.ref 0), some (.ref 2), some (.ref 317), some (.ref 351), some (.int (iI ((7 * c : Nat) : Int))), l5, l6] [] M := by
  obtain ⟨hi, hc, hk, hz, hr, hL, hL2⟩ := hb
  have hS := hi.1
  by_cases u : 0 ≤ sc (7 * c + 1) ∧ sc (7 * c + 1) < 4
  · obtain ⟨h, eh⟩ : ∃ h : Nat, sc (7 * c + 1) = (h : Int) := ⟨(sc (7 * c + 1)).toNat, by omega⟩
    have hh : h < 4 := by omega
    obtain ⟨z, hz9⟩ := pr_tries (h := h) hi hh
    rw [← eh] at hz9
    refine r_aload1 (pc2 := 946) dL_law_945 rfl ?_
    refine r_aload0 (pc2 := 947) dL_law_946 rfl ?_
    refine r_iload4 (pc2 := 949) dL_law_947 rfl ?_
    refine r_iconst (pc2 := 950) dL_law_949 rfl ?_
    refine r_iadd (c := ((7 * c + 1 : Nat) : Int)) (pc2 := 951) dL_law_950 rfl (by omega) ?_
    refine r_sald (z := sc (7 * c + 1)) (pc2 := 952) dL_law_951 rfl hk (7 * c + 1) rfl (by omega) (by rw [hz]) ?_
    refine r_aload3 (pc2 := 953) dL_law_952 rfl ?_
    refine go_invS (kc := m + 1) (ks := 6 * m + 6) (kc2 := 0) (ks2 := 0) (as := [.ref 2, .int (iI (sc (7 * c + 1))), .ref 351]) dL_law_953 sL_116 rfl (Nat.le_of_ble_eq_true rfl) (hH.1 M _ _ hS hz9 (fun v M2 q => ⟨q.2.1.1, _, q.1⟩)) ?_
    rintro _ M3 ⟨M2, y, ⟨ey, i2, s2, hm⟩, e3, rfl⟩
    have ey : y = iI z := by injection (Option.some.inj ey)
    subst ey
    have hS3 : sOk M3.1 := by rw [e3]; exact i2.1
    have hk3 : M3.1.2.1 0 = (8, L) := by rw [e3]; show M2.1.2.1 0 = _; rw [s2.1]; exact hk
    have hz3 : M3.2.1 0 = sc := by rw [e3]; exact s2.2.trans hz
    refine r_istore5 (pc2 := 958) dL_law_956 rfl rfl ?_
    refine r_aload2 (pc2 := 959) dL_law_958 rfl ?_
    refine r_aload0 (pc2 := 960) dL_law_959 rfl ?_
    refine r_iload4 (pc2 := 962) dL_law_960 rfl ?_
    refine r_iconst (pc2 := 963) dL_law_962 rfl ?_
    refine r_iadd (c := ((7 * c + 1 : Nat) : Int)) (pc2 := 964) dL_law_963 rfl (by omega) ?_
    refine r_sald (z := sc (7 * c + 1)) (pc2 := 965) dL_law_964 rfl hk3 (7 * c + 1) rfl (by omega) (by rw [hz3]) ?_
    rw [e3] at hS3 hk3 hz3 ⊢
    refine r_cv1 (pc2 := 968) dL_law_965 rfl vL_119 (hK_317 hS3) (Nat.le_of_ble_eq_true rfl) (hC _ _ _ _ _ _ (hm (iI z).toInt64)) ?_
    rintro _ M4 ⟨rfl, i4, s4, t4, o4⟩
    have hS4 := i4.1
    refine r_istore6 (pc2 := 970) dL_law_968 rfl rfl ?_
    refine r_aload2 (pc2 := 971) dL_law_970 rfl ?_
    refine r_cv0 (pc2 := 974) dL_law_971 rfl vL_62 (hK_317 hS4) (Nat.le_of_ble_eq_true rfl) (hC _ _ _ _ _ _ (Ct_le (d := 1) (by decide) (c_X12_thrown (d := 0) hS4 t4))) ?_
    rintro _ M5 ⟨rfl, e5⟩
    rw [e5]
    refine r_iload5 (pc2 := 976) dL_law_974 rfl ?_
    refine go_if2 (tgt := 981) dL_law_976 (by decide) (fun _ => ?_) (fun q => absurd rfl q)
    refine r_iload5 (pc2 := 983) dL_law_981 rfl ?_
    refine r_ifne (tgt := 998) (pc2 := 986) dL_law_983 rfl (by decide) ⟨by omega, by omega⟩ (fun h => absurd rfl h) (fun _ => ?_)
    refine r_aload3 (pc2 := 987) dL_law_986 rfl ?_
    refine r_iconst (pc2 := 988) dL_law_987 rfl ?_
    refine r_lald (z := (iI z).toInt64) (pc2 := 989) dL_law_988 rfl (hK_351 hS4) 0 rfl (by decide) o4 ?_
    refine r_iload6 (pc2 := 991) dL_law_989 rfl ?_
    refine go_op2 dL_law_991 (Or.inr (Or.inr (Or.inl ⟨iI z, _, rfl, rfl, rfl⟩))) ?_
    refine r_lcmp (pc2 := 993) dL_law_992 rfl ?_
    rw [cmp_0]
    refine r_ifeq (tgt := 998) (pc2 := 996) dL_law_993 rfl (by decide) ⟨by omega, by omega⟩ (fun _ => ?_) (fun h => absurd rfl h)
    refine r_goto (tgt := 1026) dL_law_998 (by decide) ?_
    exact tail.a i4.up s4 hk hz
  · skip
    refine r_aload1 (pc2 := 946) dL_law_945 rfl ?_
    refine r_aload0 (pc2 := 947) dL_law_946 rfl ?_
    refine r_iload4 (pc2 := 949) dL_law_947 rfl ?_
    refine r_iconst (pc2 := 950) dL_law_949 rfl ?_
    refine r_iadd (c := ((7 * c + 1 : Nat) : Int)) (pc2 := 951) dL_law_950 rfl (by omega) ?_
    refine r_sald (z := sc (7 * c + 1)) (pc2 := 952) dL_law_951 rfl hk (7 * c + 1) rfl (by omega) (by rw [hz]) ?_
    refine r_aload3 (pc2 := 953) dL_law_952 rfl ?_
    refine go_invS (kc := m) (ks := 6 * m) (kc2 := 1) (ks2 := 6) (as := [.ref 2, .int (iI (sc (7 * c + 1))), .ref 351]) dL_law_953 sL_116 rfl (Nat.le_of_ble_eq_true rfl) (hH.2 M _ hS (hr _) u) ?_
    rintro _ M2 ⟨e2, rfl⟩
    have i2 : INV c M2 := hi.ng e2
    have hS2 := i2.1
    have hk2 : M2.1.2.1 0 = (8, L) := ((e2.1 0 (by have := hS.2.2; omega)).1).trans hk
    have hz2 : M2.2.1 0 = sc := ((e2.1 0 (by have := hS.2.2; omega)).2.2.1).trans hz
    refine r_istore5 (pc2 := 958) dL_law_956 rfl rfl ?_
    refine r_aload2 (pc2 := 959) dL_law_958 rfl ?_
    refine r_aload0 (pc2 := 960) dL_law_959 rfl ?_
    refine r_iload4 (pc2 := 962) dL_law_960 rfl ?_
    refine r_iconst (pc2 := 963) dL_law_962 rfl ?_
    refine r_iadd (c := ((7 * c + 1 : Nat) : Int)) (pc2 := 964) dL_law_963 rfl (by omega) ?_
    refine r_sald (z := sc (7 * c + 1)) (pc2 := 965) dL_law_964 rfl hk2 (7 * c + 1) rfl (by omega) (by rw [hz2]) ?_
    refine r_cv1 (pc2 := 968) dL_law_965 rfl vL_119 (hK_317 hS2) (Nat.le_of_ble_eq_true rfl) (hC _ _ _ _ _ _ (Ct_le (d := 2) (by decide) (c_X12_triesX (d := 0) hS2 (hr _) u))) ?_
    rintro _ M3 ⟨rfl, e3⟩
    rw [e3]
    have i3 : INV c (pI M2 317 0 1) := i2.th
    refine r_istore6 (pc2 := 970) dL_law_968 rfl rfl ?_
    refine r_aload2 (pc2 := 971) dL_law_970 rfl ?_
    refine r_cv0 (pc2 := 974) dL_law_971 rfl vL_62 (hK_317 hS2) (Nat.le_of_ble_eq_true rfl) (hC _ _ _ _ _ _ (Ct_le (d := 1) (by decide) (c_X12_thrown (d := 0) (M := pI M2 317 0 1) hS2 pI_at))) ?_
    rintro _ M5 ⟨rfl, e5⟩
    rw [e5]
    refine r_iload5 (pc2 := 976) dL_law_974 rfl ?_
    refine go_if2 (tgt := 981) dL_law_976 (by decide) (fun _ => ?_) (fun q => absurd rfl q)
    refine r_iload5 (pc2 := 983) dL_law_981 rfl ?_
    refine r_ifne (tgt := 998) (pc2 := 986) dL_law_983 rfl (by decide) ⟨by omega, by omega⟩ (fun _ => ?_) (fun h => absurd h (by decide))
    refine r_goto (tgt := 1026) dL_law_998 (by decide) ?_
    exact tail _ _ _ i3.up hk2 ((pI_ne (by decide)).trans hz2)
theorem and_31 (x : Int32) : ∃ n : Nat, n < 32 ∧ x &&& iI 31 = iI (n : Int) := by
  refine ⟨(x &&& iI 31).toBitVec.toNat, ?_, ?_⟩
  · have h : (x &&& iI 31).toBitVec.toNat = x.toBitVec.toNat &&& 31 := by
      rw [Int32.toBitVec_and, BitVec.toNat_and]; rfl
    rw [h]
    exact Nat.lt_of_le_of_lt Nat.and_le_right (by decide)
  · rw [iI_nat]
    apply Int32.toBitVec_inj.mp
    show _ = BitVec.ofNat 32 _
    simp
set_option maxHeartbeats 4000000 in
theorem lw_loop {C : pCt} {Q : pQ} {L : Nat} {sc : Nat → Int} (hC : ∀ kc ks z as M Q, Ct 340 kc ks z as M Q → C kc ks z as M Q) (hH : lwH C) (hR : lwR C) (hQ : ∀ M, Q (some (.int (iI 1))) M) (hr : ∀ j, inR (sc j)) (hL2 : L ≤ 3584) :
    ∀ (m c : Nat) (M : pM) (l5 l6 : Option Value), c + m ≤ 600 → L < 7 * (c + m + 1) → INV c M → M.1.2.1 0 = (8, L) → M.2.1 0 = sc → Go C Q yL_law cL_law (some .boolean) m (6 * m) 23 [some (.ref 0), some (.ref 2), some (.ref 317), some (.ref 351), some (.int (iI ((7 * c : Nat) : Int))), l5, l6] [] M := by
  intro m
  induction m with
  | zero =>
    intro c M l5 l6 h1 h2 hi hk hz
    refine r_iload4 (pc2 := 25) dL_law_23 rfl ?_
    refine r_aload0 (pc2 := 26) dL_law_25 rfl ?_
    refine r_alen (pc2 := 27) dL_law_26 rfl hk (by decide) ?_
    refine r_bipush (pc2 := 29) dL_law_27 rfl (by decide) (by decide) ?_
    refine r_isub (c := (L : Int) - 7) (pc2 := 30) dL_law_29 rfl rfl ?_
    refine r_icgt (tgt := 1032) (pc2 := 33) dL_law_30 rfl (by decide) ⟨by omega, by omega⟩ ⟨by omega, by omega⟩ (fun _ => ?_) (fun b => absurd b (by omega))
    refine r_iconst (pc2 := 1033) dL_law_1032 rfl ?_
    exact r_iretz dL_law_1033 rfl (Or.inr rfl) (hQ M)
  | succ m ih =>
    intro c M l5 l6 h1 h2 hi hk hz
    refine r_iload4 (pc2 := 25) dL_law_23 rfl ?_
    refine r_aload0 (pc2 := 26) dL_law_25 rfl ?_
    refine r_alen (pc2 := 27) dL_law_26 rfl hk (by decide) ?_
    refine r_bipush (pc2 := 29) dL_law_27 rfl (by decide) (by decide) ?_
    refine r_isub (c := (L : Int) - 7) (pc2 := 30) dL_law_29 rfl rfl ?_
    refine r_icgt (tgt := 1032) (pc2 := 33) dL_law_30 rfl (by decide) ⟨by omega, by omega⟩ ⟨by omega, by omega⟩ (fun _ => ?_) (fun b => ?_)
    · refine r_iconst (pc2 := 1033) dL_law_1032 rfl ?_
      exact r_iretz dL_law_1033 rfl (Or.inr rfl) (hQ M)
    · have hb : lwB sc c L M := ⟨hi, by omega, hk, hz, hr, by omega, hL2⟩
      have tail : lwT C Q sc c m L := fun M3 l5 l6 i3 k3 z3 => by
        refine r_iinc4 (z := ((7 * (c + 1) : Nat) : Int)) (pc2 := 1029) dL_law_1026 rfl (by omega) rfl ?_
        refine r_goto (tgt := 23) dL_law_1029 (by decide) ?_
        exact ih (c + 1) M3 l5 l6 (by omega) (by omega) i3 k3 z3
      rw [show 6 * (m + 1) = 6 * m + 6 by omega]
      refine r_aload0 (pc2 := 34) dL_law_33 rfl ?_
      refine r_iload4 (pc2 := 36) dL_law_34 rfl ?_
      refine r_sald (z := sc (7 * c)) (pc2 := 37) dL_law_36 rfl hk (7 * c) rfl (by omega) (by rw [hz]) ?_
      refine r_bipush (pc2 := 39) dL_law_37 rfl (by decide) (by decide) ?_
      refine r_iand (pc2 := 40) dL_law_39 rfl ?_
      obtain ⟨n, hn, en⟩ := and_31 (iI (sc (7 * c)))
      rw [en]
      by_cases u : n ≤ 21
      · match n, u with
        | 0, _ => exact r_tabIn (tgt := 144) dL_law_40 ⟨by omega, by omega⟩ 0 rfl (by decide) rfl (by decide) (lc_feed hC hb tail)
        | 1, _ => exact r_tabIn (tgt := 291) dL_law_40 ⟨by omega, by omega⟩ 1 rfl (by decide) rfl (by decide) (lc_draw hC hb tail)
        | 2, _ => exact r_tabIn (tgt := 304) dL_law_40 ⟨by omega, by omega⟩ 2 rfl (by decide) rfl (by decide) (lc_takeBack hC hb tail)
        | 3, _ => exact r_tabIn (tgt := 317) dL_law_40 ⟨by omega, by omega⟩ 3 rfl (by decide) rfl (by decide) (lc_piece hC hb tail)
        | 4, _ => exact r_tabIn (tgt := 354) dL_law_40 ⟨by omega, by omega⟩ 4 rfl (by decide) rfl (by decide) (lc_shows hC hb tail)
        | 5, _ => exact r_tabIn (tgt := 391) dL_law_40 ⟨by omega, by omega⟩ 5 rfl (by decide) rfl (by decide) (lc_train hC hb tail)
        | 6, _ => exact r_tabIn (tgt := 428) dL_law_40 ⟨by omega, by omega⟩ 6 rfl (by decide) rfl (by decide) (lc_lever hC hb tail)
        | 7, _ => exact r_tabIn (tgt := 453) dL_law_40 ⟨by omega, by omega⟩ 7 rfl (by decide) rfl (by decide) (lc_hopper hC hb tail hH)
        | 8, _ => exact r_tabIn (tgt := 521) dL_law_40 ⟨by omega, by omega⟩ 8 rfl (by decide) rfl (by decide) (lc_run hC hb tail)
        | 9, _ => exact r_tabIn (tgt := 558) dL_law_40 ⟨by omega, by omega⟩ 9 rfl (by decide) rfl (by decide) (lc_logged hC hb tail)
        | 10, _ => exact r_tabIn (tgt := 583) dL_law_40 ⟨by omega, by omega⟩ 10 rfl (by decide) rfl (by decide) (lc_round hC hb tail)
        | 11, _ => exact r_tabIn (tgt := 620) dL_law_40 ⟨by omega, by omega⟩ 11 rfl (by decide) rfl (by decide) (lc_shelf hC hb tail)
        | 12, _ => exact r_tabIn (tgt := 673) dL_law_40 ⟨by omega, by omega⟩ 12 rfl (by decide) rfl (by decide) (lc_alike hC hb tail)
        | 13, _ => exact r_tabIn (tgt := 710) dL_law_40 ⟨by omega, by omega⟩ 13 rfl (by decide) rfl (by decide) (lc_telling hC hb tail)
        | 14, _ => exact r_tabIn (tgt := 759) dL_law_40 ⟨by omega, by omega⟩ 14 rfl (by decide) rfl (by decide) (lc_wish hC hb tail)
        | 15, _ => exact r_tabIn (tgt := 808) dL_law_40 ⟨by omega, by omega⟩ 15 rfl (by decide) rfl (by decide) (lc_way hC hb tail)
        | 16, _ => exact r_tabIn (tgt := 821) dL_law_40 ⟨by omega, by omega⟩ 16 rfl (by decide) rfl (by decide) (lc_step hC hb tail)
        | 17, _ => exact r_tabIn (tgt := 846) dL_law_40 ⟨by omega, by omega⟩ 17 rfl (by decide) rfl (by decide) (lc_sight hC hb tail)
        | 18, _ => exact r_tabIn (tgt := 883) dL_law_40 ⟨by omega, by omega⟩ 18 rfl (by decide) rfl (by decide) (lc_suspect hC hb tail)
        | 19, _ => exact r_tabIn (tgt := 920) dL_law_40 ⟨by omega, by omega⟩ 19 rfl (by decide) rfl (by decide) (lc_test hC hb tail)
        | 20, _ => exact r_tabIn (tgt := 945) dL_law_40 ⟨by omega, by omega⟩ 20 rfl (by decide) rfl (by decide) (lc_tries hC hb tail hR)
        | 21, _ => exact r_tabIn (tgt := 1001) dL_law_40 ⟨by omega, by omega⟩ 21 rfl (by decide) rfl (by decide) (lc_count hC hb tail)
        | n + 22, u => exact absurd u (by omega)
      · refine r_tabOut (tgt := 1026) dL_law_40 ⟨by omega, by omega⟩ (Or.inr (by omega)) (by decide) ?_
        exact tail.a hi.up ⟨rfl, rfl⟩ hk hz
/-- the start: the script lies in cell 0 -/
def LM0 (M : pM) (L : Nat) (sc : Nat → Int) : Prop := M.1.1 = 2 ∧ M.1.2.1 0 = (8, L) ∧ M.2.1 0 = sc
set_option maxHeartbeats 4000000 in
theorem lw_go {C : pCt} {Q : pQ} {M : pM} {L : Nat} {sc : Nat → Int} (hC : ∀ kc ks z as M Q, Ct 340 kc ks z as M Q → C kc ks z as M Q) (hH : lwH C) (hR : lwR C) (hX : ∀ M : pM, FR M 2 11 → C 314 62274 yX11_init [.ref 2] M (fun v M2 => v = none ∧ CO M M2)) (hQ : ∀ M, Q (some (.int (iI 1))) M) (hr : ∀ j, inR (sc j)) (hL2 : L ≤ 3584) (h0 : LM0 M L sc) : Go C Q yL_law cL_law (some .boolean) 862 119695 0 [some (.ref 0), none, none, none, none, none, none] [] M := by
  obtain ⟨n0, k0_, z0_⟩ := h0
  refine r_nwm (N := 13) (kc := 547) (ks := 57408) (kc2 := 314) (ks2 := 62274) (pc1 := 3) (pc2 := 4) (pc3 := 7) n0 dL_law_0 rfl nL_8 dL_law_3 rfl dL_law_4 rfl iL_19 (by decide) (hX _ (by rw [← n0]; exact FR.new)) ?_
  rintro _ M2 ⟨rfl, n2, d2, s2, w2⟩
  refine r_astore1 (pc2 := 8) dL_law_7 rfl rfl ?_
  refine r_nwm (N := 54) (kc := 513) (ks := 3073) (kc2 := 33) (ks2 := 54281) (pc1 := 11) (pc2 := 12) (pc3 := 15) n2 dL_law_8 rfl nL_20 dL_law_11 rfl dL_law_12 rfl iL_22 (by decide) (hC _ _ _ _ _ _ (Ct_le (d := 1) (by decide) (c_X12_init (d := 0) (show FR (pNew M2 1 12) 317 12 by rw [← n2]; exact FR.new)))) ?_
  rintro _ M3 ⟨rfl, g3, w3⟩
  refine r_astore2 (pc2 := 16) dL_law_15 rfl rfl ?_
  refine r_iconst (pc2 := 17) dL_law_16 rfl ?_
  obtain ⟨d3, n3, s3, -, -⟩ := (show DN M2 2 1000 M2.1.1 by rw [n2]; exact d2).ext (show GW (pNew M2 1 12) M3 M2.1.1 351 by rw [n2]; exact g3) (by rw [n2]; decide +kernel)
  rw [n2] at s3
  refine go_newa (kc := 512) (ks := 3072) (t := 3) (n := 1) dL_law_17 (Or.inr (Or.inl ⟨rfl, rfl⟩)) rfl (by decide) ?_
  rw [n3]
  refine r_astore3 (pc2 := 20) dL_law_19 rfl rfl ?_
  refine r_iconst (pc2 := 21) dL_law_20 rfl ?_
  refine r_istore4 (pc2 := 23) dL_law_21 rfl rfl ?_
  have s4 : SB M3 (pNew M3 3 1) 351 := by have h := SB.new (M := M3) (t := 3) (k := 1); rw [n3] at h; exact h
  have d4 := d3.sb s4
  have hS : sOk (pNew M3 3 1).1 := by
    refine ⟨fun a q1 q2 => ?_, fun a j q1 q2 => ?_, by show 352 ≤ M3.1.1 + 1; omega⟩
    · by_cases u : a = 351
      · subst u
        show va_up M3.1.2.1 M3.1.1 (3, 1) 351 = _
        rw [n3, up_at]; decide +kernel
      · exact (d4 a q1 (by omega)).1
    · by_cases u : a = 351
      · subst u
        show pZ M3.1.2.2 M3.1.1 none 351 j = _
        rw [n3, pZ_at, r0_none (by decide)]
      · exact (d4 a q1 (by omega)).2.1 (by omega) j
  have cw : ∀ c, c < 317 → (pNew M3 3 1).2.2 c = M2.2.2 c := fun c hc => ((s4 c (by omega)).2.2.2).trans (s3 c hc).2.2.2
  have hi : INV 0 (pNew M3 3 1) := INV.z ⟨hS, fun c j q1 q2 => (d4 c q1 q2).2.2.1 j, (d4 19 (by decide) (by decide)).2.2.2 (by decide) (by decide) (by decide) (by decide) 11, w2.of (cw 4 (by decide)), fun k hk => by rw [(s4 322 (by decide)).2.2.2]; exact w3 k hk⟩
  have low := (SB.new (M := M) (t := 1) (k := 11)).mono (show 1 ≤ M.1.1 by omega)
  refine lw_loop hC hH hR hQ hr hL2 512 0 _ _ _ (by decide) (by omega) hi ?_ ?_
  · rw [(s4 0 (by decide)).1, (s3 0 (by decide)).1, (s2 0 (by decide)).1, (low 0 (by decide)).1]; exact k0_
  · rw [(s4 0 (by decide)).2.2.1, (s3 0 (by decide)).2.2.1, (s2 0 (by decide)).2.2.1, (low 0 (by decide)).2.2.1]; exact z0_
