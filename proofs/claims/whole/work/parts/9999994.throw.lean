/-! the model's throws; more room; a new cell keeps what holds -/
set_option maxHeartbeats 4000000 in
theorem c_X12_hopperX {d : Nat} {M : pM} {z w : Int} (hS : sOk M.1) (hzr : inR z) (hwr : inR w) (hn : ¬ ((0 ≤ z ∧ z < 4) ∧ 0 ≤ w ∧ w ≤ 2)) : Ct (d + 2) 0 0 yX12_hopper [.ref 317, .int (iI z), .int (iI w)] M (fun v M2 => v = some (.int (iI 0)) ∧ M2 = pI M 317 0 1) := by
  refine ct_in (d := (d + 1)) kX12_hopper rfl (by decide) (Nat.le_of_ble_eq_true rfl) (by decide) ?_
  show Go (Ct (d + 1)) _ yX12_hopper cX12_hopper (some .int) 0 0 0 [some (.ref 317), some (.int (iI z)), some (.int (iI w))] [] M
  have hwr2 := hwr
  unfold inR at hwr2
  refine r_aload0 (pc2 := 1) dX12_hopper_0 rfl ?_
  refine r_iload1 (pc2 := 2) dX12_hopper_1 rfl ?_
  refine r_cs1 (pc2 := 5) dX12_hopper_2 rfl sX12_306 (Nat.le_of_ble_eq_true rfl) (c_X12_isHopper (d := d) (h := z) hzr) ?_
  by_cases hz : 0 ≤ z ∧ z < 4
  · rintro _ M9 ⟨rfl, h9⟩
    rw [h9, show (if 0 ≤ z ∧ z < 4 then (1 : Int) else 0) = 1 from if_pos hz]
    show Go (Ct (d + 1)) _ yX12_hopper cX12_hopper (some .int) 0 0 5 [some (.ref 317), some (.int (iI z)), some (.int (iI w))] [.int (iI 1), .ref 317] M
    refine r_ifeq (tgt := 21) (pc2 := 8) dX12_hopper_5 rfl (by decide) ⟨by omega, by omega⟩ (fun h9 => absurd h9 (by decide)) (fun _ => ?_)
    refine r_iload2 (pc2 := 9) dX12_hopper_8 rfl ?_
    refine r_iflt (tgt := 21) (pc2 := 12) dX12_hopper_9 rfl (by decide) ⟨by omega, by omega⟩ (fun b_9 => ?_) (fun b_9 => ?_)
    · refine r_iconst (pc2 := 22) dX12_hopper_21 rfl ?_
      refine r_putI (z := 1) (pc2 := 25) dX12_hopper_22 rfl fX12_1 (w12_0 _) (hK_317 hS) (by decide) ?_
      refine r_aload0 (pc2 := 26) dX12_hopper_25 rfl ?_
      refine r_getI (z := 1) (pc2 := 29) dX12_hopper_26 rfl (Or.inl fX12_1) (hK_317 hS) rfl ?_
      refine r_ifle (tgt := 36) (pc2 := 32) dX12_hopper_29 rfl (by decide) ⟨by omega, by omega⟩ (fun b_29 => ?_) (fun b_29 => ?_)
      · exact absurd b_29 (by decide)
      · refine r_iconst (pc2 := 33) dX12_hopper_32 rfl ?_
        refine r_goto (tgt := 69) dX12_hopper_33 (by decide) ?_
        refine r_ireti dX12_hopper_69 rfl ?_
        exact ⟨rfl, rfl⟩
    · refine r_iload2 (pc2 := 13) dX12_hopper_12 rfl ?_
      refine r_iconst (pc2 := 14) dX12_hopper_13 rfl ?_
      refine r_icgt (tgt := 21) (pc2 := 17) dX12_hopper_14 rfl (by decide) ⟨by omega, by omega⟩ ⟨by omega, by omega⟩ (fun b_14 => ?_) (fun b_14 => ?_)
      · refine r_iconst (pc2 := 22) dX12_hopper_21 rfl ?_
        refine r_putI (z := 1) (pc2 := 25) dX12_hopper_22 rfl fX12_1 (w12_0 _) (hK_317 hS) (by decide) ?_
        refine r_aload0 (pc2 := 26) dX12_hopper_25 rfl ?_
        refine r_getI (z := 1) (pc2 := 29) dX12_hopper_26 rfl (Or.inl fX12_1) (hK_317 hS) rfl ?_
        refine r_ifle (tgt := 36) (pc2 := 32) dX12_hopper_29 rfl (by decide) ⟨by omega, by omega⟩ (fun b_29 => ?_) (fun b_29 => ?_)
        · exact absurd b_29 (by decide)
        · refine r_iconst (pc2 := 33) dX12_hopper_32 rfl ?_
          refine r_goto (tgt := 69) dX12_hopper_33 (by decide) ?_
          refine r_ireti dX12_hopper_69 rfl ?_
          exact ⟨rfl, rfl⟩
      · exact absurd ⟨hz, by omega, by omega⟩ hn
  · rintro _ M9 ⟨rfl, h9⟩
    rw [h9, show (if 0 ≤ z ∧ z < 4 then (1 : Int) else 0) = 0 from if_neg hz]
    show Go (Ct (d + 1)) _ yX12_hopper cX12_hopper (some .int) 0 0 5 [some (.ref 317), some (.int (iI z)), some (.int (iI w))] [.int (iI 0), .ref 317] M
    refine r_ifeq (tgt := 21) (pc2 := 8) dX12_hopper_5 rfl (by decide) ⟨by omega, by omega⟩ (fun _ => ?_) (fun h9 => absurd h9 (by decide))
    refine r_iconst (pc2 := 22) dX12_hopper_21 rfl ?_
    refine r_putI (z := 1) (pc2 := 25) dX12_hopper_22 rfl fX12_1 (w12_0 _) (hK_317 hS) (by decide) ?_
    refine r_aload0 (pc2 := 26) dX12_hopper_25 rfl ?_
    refine r_getI (z := 1) (pc2 := 29) dX12_hopper_26 rfl (Or.inl fX12_1) (hK_317 hS) rfl ?_
    refine r_ifle (tgt := 36) (pc2 := 32) dX12_hopper_29 rfl (by decide) ⟨by omega, by omega⟩ (fun b_29 => ?_) (fun b_29 => ?_)
    · exact absurd b_29 (by decide)
    · refine r_iconst (pc2 := 33) dX12_hopper_32 rfl ?_
      refine r_goto (tgt := 69) dX12_hopper_33 (by decide) ?_
      refine r_ireti dX12_hopper_69 rfl ?_
      exact ⟨rfl, rfl⟩
set_option maxHeartbeats 4000000 in
theorem c_X12_triesX {d : Nat} {M : pM} {z : Int} (hS : sOk M.1) (hzr : inR z) (hn : ¬ (0 ≤ z ∧ z < 4)) : Ct (d + 2) 0 0 yX12_tries [.ref 317, .int (iI z)] M (fun v M2 => v = some (.int (iI 0)) ∧ M2 = pI M 317 0 1) := by
  refine ct_in (d := (d + 1)) kX12_tries rfl (by decide) (Nat.le_of_ble_eq_true rfl) (by decide) ?_
  show Go (Ct (d + 1)) _ yX12_tries cX12_tries (some .int) 0 0 0 [some (.ref 317), some (.int (iI z))] [] M
  refine r_aload0 (pc2 := 1) dX12_tries_0 rfl ?_
  refine r_iload1 (pc2 := 2) dX12_tries_1 rfl ?_
  refine r_cs1 (pc2 := 5) dX12_tries_2 rfl sX12_306 (Nat.le_of_ble_eq_true rfl) (c_X12_isHopper (d := d) (h := z) hzr) ?_
  by_cases hz : 0 ≤ z ∧ z < 4
  · rintro _ M9 ⟨rfl, h9⟩
    rw [h9, show (if 0 ≤ z ∧ z < 4 then (1 : Int) else 0) = 1 from if_pos hz]
    show Go (Ct (d + 1)) _ yX12_tries cX12_tries (some .int) 0 0 5 [some (.ref 317), some (.int (iI z))] [.int (iI 1), .ref 317] M
    refine r_ifeq (tgt := 12) (pc2 := 8) dX12_tries_5 rfl (by decide) ⟨by omega, by omega⟩ (fun h9 => absurd h9 (by decide)) (fun _ => ?_)
    exact absurd hz hn
  · rintro _ M9 ⟨rfl, h9⟩
    rw [h9, show (if 0 ≤ z ∧ z < 4 then (1 : Int) else 0) = 0 from if_neg hz]
    show Go (Ct (d + 1)) _ yX12_tries cX12_tries (some .int) 0 0 5 [some (.ref 317), some (.int (iI z))] [.int (iI 0), .ref 317] M
    refine r_ifeq (tgt := 12) (pc2 := 8) dX12_tries_5 rfl (by decide) ⟨by omega, by omega⟩ (fun _ => ?_) (fun h9 => absurd h9 (by decide))
    refine r_iconst (pc2 := 13) dX12_tries_12 rfl ?_
    refine r_putI (z := 1) (pc2 := 16) dX12_tries_13 rfl fX12_1 (w12_0 _) (hK_317 hS) (by decide) ?_
    refine r_aload0 (pc2 := 17) dX12_tries_16 rfl ?_
    refine r_getI (z := 1) (pc2 := 20) dX12_tries_17 rfl (Or.inl fX12_1) (hK_317 hS) rfl ?_
    refine r_ifle (tgt := 25) (pc2 := 23) dX12_tries_20 rfl (by decide) ⟨by omega, by omega⟩ (fun b_20 => ?_) (fun b_20 => ?_)
    · exact absurd b_20 (by decide)
    · refine r_iconst (pc2 := 24) dX12_tries_23 rfl ?_
      refine r_ireti dX12_tries_24 rfl ?_
      exact ⟨rfl, rfl⟩
/-- with more room -/
theorem Go_add {C : pCt} {Q : pQ} {y : MethodName} {cc : ByteArray} {rt : Option FieldType} {kc ks pc : Nat} {ls : pL} {st : List Value} {M : pM} (a b : Nat) (h : Go C Q y cc rt kc ks pc ls st M) : Go C Q y cc rt (kc + a) (ks + b) pc ls st M := by
  intro P hP
  refine h (fun kc ks pc ls st M => P (kc + a) (ks + b) pc ls st M) ?_
  obtain ⟨h1, h2, h3, h4, h5, h6, h7, h8, h9, h10, h11, h12, h13, h14, h15, h16, h17, h18, h19, h20, h21, h22, h23, h24, h25, h26, h27, h28, h29, h30, h31, h32, h33, h34, h35, h36, h37, h38, h39, h40⟩ := hP
  refine ⟨fun kc ks => h1 (kc + a) (ks + b), fun kc ks => h2 (kc + a) (ks + b), fun kc ks => h3 (kc + a) (ks + b), fun kc ks => h4 (kc + a) (ks + b), fun kc ks => h5 (kc + a) (ks + b), fun kc ks => h6 (kc + a) (ks + b), fun kc ks => h7 (kc + a) (ks + b), fun kc ks => h8 (kc + a) (ks + b), fun kc ks => h9 (kc + a) (ks + b), fun kc ks => h10 (kc + a) (ks + b), fun kc ks => h11 (kc + a) (ks + b), fun kc ks => h12 (kc + a) (ks + b), fun kc ks => h13 (kc + a) (ks + b), fun kc ks => h14 (kc + a) (ks + b), fun kc ks => h15 (kc + a) (ks + b), fun kc ks => h16 (kc + a) (ks + b), fun kc ks => h17 (kc + a) (ks + b), fun kc ks => h18 (kc + a) (ks + b), fun kc ks => h19 (kc + a) (ks + b), fun kc ks => h20 (kc + a) (ks + b), fun kc ks => h21 (kc + a) (ks + b), fun kc ks => h22 (kc + a) (ks + b), fun kc ks => h23 (kc + a) (ks + b), fun kc ks => h24 (kc + a) (ks + b), fun kc ks => h25 (kc + a) (ks + b), fun kc ks => h26 (kc + a) (ks + b), fun kc ks => h27 (kc + a) (ks + b), ?_, ?_, ?_, fun kc ks => h31 (kc + a) (ks + b), fun kc ks => h32 (kc + a) (ks + b), fun kc ks => h33 (kc + a) (ks + b), ?_, ?_, ?_, fun kc ks => h37 (kc + a) (ks + b), fun kc ks => h38 (kc + a) (ks + b), fun kc ks => h39 (kc + a) (ks + b), fun kc ks => h40 (kc + a) (ks + b)⟩
  · intro kc ks pc ls M st idx ci N e1 e2 g
    have h9 := h28 (kc + a) (ks + b) pc ls M st idx ci N e1 e2 g
    rw [show kc + a + 1 = kc + 1 + a by omega, show ks + b + N = ks + N + b by omega] at h9
    exact h9
  · intro kc ks pc ls M st ty t n j e1 e2 e3 e4 g
    have h9 := h29 (kc + a) (ks + b) pc ls M st ty t n j e1 e2 e3 e4 g
    rw [show kc + a + 1 = kc + 1 + a by omega, show ks + b + n = ks + n + b by omega] at h9
    exact h9
  · intro kc ks pc ls M st idx n j e1 e2 e3 e4 g
    have h9 := h30 (kc + a) (ks + b) pc ls M st idx n j e1 e2 e3 e4 g
    rw [show kc + a + 1 = kc + 1 + a by omega, show ks + b + n = ks + n + b by omega] at h9
    exact h9
  · intro kc ks pc ls M st idx n kc2 ks2 as z Q2 x ci e1 e2 e3 e4 e5 e6 g
    have h9 := h34 (kc + a) (ks + b) pc ls M st idx n kc2 ks2 as z Q2 x ci e1 e2 e3 e4 e5 e6 g
    rw [show kc + a + kc2 = kc + kc2 + a by omega, show ks + b + ks2 = ks + ks2 + b by omega] at h9
    exact h9
  · intro kc ks pc ls M st idx n kc2 ks2 as z Q2 x e1 e2 e3 e4 e5 g
    have h9 := h35 (kc + a) (ks + b) pc ls M st idx n kc2 ks2 as z Q2 x e1 e2 e3 e4 e5 g
    rw [show kc + a + kc2 = kc + kc2 + a by omega, show ks + b + ks2 = ks + ks2 + b by omega] at h9
    exact h9
  · intro kc ks pc ls M st idx n kc2 ks2 as z Q2 e1 e2 e3 e4 e5 g
    have h9 := h36 (kc + a) (ks + b) pc ls M st idx n kc2 ks2 as z Q2 e1 e2 e3 e4 e5 g
    rw [show kc + a + kc2 = kc + kc2 + a by omega, show ks + b + ks2 = ks + ks2 + b by omega] at h9
    exact h9
theorem sOk.new {M : pM} {t n : Nat} (h : sOk M.1) : sOk (pNew M t n).1 := by
  obtain ⟨h1, h2, h3⟩ := h
  refine ⟨fun a q1 q2 => ?_, fun a k q1 q2 => ?_, ?_⟩
  · show va_up M.1.2.1 M.1.1 (t, n) a = _
    rw [up_ne (by omega)]; exact h1 a q1 q2
  · show pZ M.1.2.2 M.1.1 none a k = _
    rw [pZ_ne (by omega)]; exact h2 a k q1 q2
  · show 352 ≤ M.1.1 + 1
    omega
theorem INV.of {c : Nat} {M M2 : pM} (h : INV c M) (hS : sOk M2.1) (e : ∀ a, 2 ≤ a → a < 351 → M2.2.1 a = M.2.1 a ∧ M2.2.2 a = M.2.2 a) : INV c M2 := by
  obtain ⟨-, T, L, B, k, lf, lg, N, pu, n, W, sn, ho, hw, hA, hC, hM, hN⟩ := h
  exact ⟨hS, T, L, B, k, lf, lg, N, pu, n, W, sn, ho, hw, hA, hC.of (fun a h1 h2 => e a h1 (by omega)) (fun _ _ => rfl), hM.of (fun a h1 h2 => e a (by omega) h2), hN⟩
theorem INV.new {c t n : Nat} {M : pM} (h : INV c M) : INV c (pNew M t n) := h.of h.1.new (fun a h1 h2 => by
  have := h.1.2.2
  exact ⟨pZ_ne (by omega), pZ_ne (by omega)⟩)
theorem INV.J {c : Nat} {M : pM} {v : Int64} (h : INV c M) : INV c (pJ M 351 0 v) := h.of h.1 (fun a h1 h2 => ⟨rfl, pU_ne (by omega)⟩)
theorem INV.up {c : Nat} {M : pM} (h : INV c M) : INV (c + 1) M := by
  obtain ⟨hS, T, L, B, k, lf, lg, N, pu, n, W, sn, ho, hw, hA, hC, hM, hN⟩ := h
  exact ⟨hS, T, L, B, k, lf, lg, N, pu, n, W, sn, ho, hw, hA, hC, hM, by omega⟩
/-- the model's field thrown is no part of what holds -/
theorem INV.th {c : Nat} {M : pM} {z : Int} (h : INV c M) : INV c (pI M 317 0 z) := by
  obtain ⟨hS, T, L, B, k, lf, lg, N, pu, n, W, sn, ho, hw, hA, hC, hM, hN⟩ := h
  exact ⟨hS, T, L, B, k, lf, lg, N, pu, n, W, sn, ho, hw, hA, hC.of (fun a h1 h2 => ⟨pI_ne (by omega), rfl⟩) (fun _ _ => rfl), hM.ke hM.2.1.1.z rfl (fun q hq => pI_nk (fun e => by subst e; revert hq; decide)) (fun a ha => pI_ne (fun e => by subst e; revert ha; decide)), hN⟩
/-- hopper and tries where nothing is thrown -/
theorem pr_hopper {c : Nat} {M : pM} {h : Nat} {w : Int} (hi : INV c M) (hh : h < 4) (hw2 : 0 ≤ w ∧ w ≤ 2) : ∃ z : Int, Ct 340 0 0 yX11_hopper [.ref 2, .int (iI ((h : Nat) : Int)), .int (iI w)] M (fun v M2 => v = some (.int (iI z)) ∧ INV c M2 ∧ smS M M2 ∧ ∀ u : Int64, Ct 340 0 0 yX12_hopper [.ref 317, .int (iI ((h : Nat) : Int)), .int (iI w)] (pJ M2 351 0 u) (fun v3 M3 => v3 = some (.int (iI z)) ∧ INV c M3 ∧ smS M M3 ∧ M3.2.1 317 0 = 0 ∧ M3.2.2 351 0 = u)) := by
  obtain ⟨hS, T, L, B, k, lf, lg, N, pu, n, W, sn, ho, hw, hA, hC, hM, hN⟩ := hi
  refine ⟨if w = 0 then (((B 0).1.2.2.1 h : Nat) : Int) else if w = 1 then (B 0).1.2.1 h else (B 0).1.2.2.2.2 h, Ct_mono ?_ (kC_hopper hS hA hC hh hw2)⟩
  rintro _ M2 ⟨rfl, h1, h2⟩
  refine ⟨rfl, ⟨h2.ok hS, T, L, B, k, lf, lg, N, pu, n, W, sn, ho, hw, hA, h1, hM.fc h2, hN⟩, h2.sm, fun u => ?_⟩
  have hMu : MI (pJ M2 351 0 u) T L B k lf lg N pu n W sn ho hw := (hM.fc h2).of (fun a q1 q2 => ⟨rfl, pU_ne (by omega)⟩)
  have hCu : CI (pJ M2 351 0 u) T L B k lf lg N pu n W sn ho hw := h1.of (fun a q1 q2 => ⟨rfl, pU_ne (by omega)⟩) (fun _ _ => rfl)
  refine Ct_mono ?_ (kM_hopper (M := pJ M2 351 0 u) (h2.ok hS) hA hMu hh hw2)
  rintro _ M3 ⟨rfl, g1, g2, g3⟩
  refine ⟨rfl, ⟨g2.ok (h2.ok hS), T, L, B, k, lf, lg, N, pu, n, W, sn, ho, hw, hA, hCu.fm g2, g1, hN⟩, ⟨g2.1.trans h2.1, ((g2.2 0 (by omega)).1).trans (h2.2 0 (by omega)).1⟩, g3, ?_⟩
  rw [(g2.2 351 (by omega)).2]
  show pU M2.2.2 351 0 u 351 0 = u
  rw [pU_at, up_at]
theorem pr_tries {c : Nat} {M : pM} {h : Nat} (hi : INV c M) (hh : h < 4) : ∃ z : Int, Ct 340 0 0 yX11_tries [.ref 2, .int (iI ((h : Nat) : Int))] M (fun v M2 => v = some (.int (iI z)) ∧ INV c M2 ∧ smS M M2 ∧ ∀ u : Int64, Ct 340 0 0 yX12_tries [.ref 317, .int (iI ((h : Nat) : Int))] (pJ M2 351 0 u) (fun v3 M3 => v3 = some (.int (iI z)) ∧ INV c M3 ∧ smS M M3 ∧ M3.2.1 317 0 = 0 ∧ M3.2.2 351 0 = u)) := by
  obtain ⟨hS, T, L, B, k, lf, lg, N, pu, n, W, sn, ho, hw, hA, hC, hM, hN⟩ := hi
  refine ⟨(bH (B 0).1 (-2) (B 0).2 h).1, Ct_mono ?_ (kC_tries hS hA hC hh)⟩
  rintro _ M2 ⟨rfl, h1, h2⟩
  refine ⟨rfl, ⟨h2.ok hS, T, L, B, k, lf, lg, N, pu, n, W, sn, ho, hw, hA, h1, hM.fc h2, hN⟩, h2.sm, fun u => ?_⟩
  have hMu : MI (pJ M2 351 0 u) T L B k lf lg N pu n W sn ho hw := (hM.fc h2).of (fun a q1 q2 => ⟨rfl, pU_ne (by omega)⟩)
  have hCu : CI (pJ M2 351 0 u) T L B k lf lg N pu n W sn ho hw := h1.of (fun a q1 q2 => ⟨rfl, pU_ne (by omega)⟩) (fun _ _ => rfl)
  refine Ct_mono ?_ (kM_tries (M := pJ M2 351 0 u) (h2.ok hS) hA hMu hh)
  rintro _ M3 ⟨rfl, g1, g2, g3⟩
  refine ⟨rfl, ⟨g2.ok (h2.ok hS), T, L, B, k, lf, lg, N, pu, n, W, sn, ho, hw, hA, hCu.fm g2, g1, hN⟩, ⟨g2.1.trans h2.1, ((g2.2 0 (by omega)).1).trans (h2.2 0 (by omega)).1⟩, g3, ?_⟩
  rw [(g2.2 351 (by omega)).2]
  show pU M2.2.2 351 0 u 351 0 = u
  rw [pU_at, up_at]
