/-! the model is made -/
/-- as GWa, the ints by any function -/
def GWz (M M2 : pM) (a n2 : Nat) (RA : Nat → Option Nat) (Z : Nat → Nat → Int) : Prop :=
  (M.1.1 = a + 1 ∧ M2.1.1 = n2 ∧ a < n2) ∧ (∀ c, c ≤ a → M2.1.2.1 c = M.1.2.1 c) ∧ (∀ c, c < a → M2.1.2.2 c = M.1.2.2 c ∧ M2.2.1 c = M.2.1 c ∧ M2.2.2 c = M.2.2 c) ∧
  (∀ c, a < c → c < n2 → M2.1.2.1 c = k0 c ∧ ∀ j, M2.1.2.2 c j = r0 c j) ∧ (∀ c, a ≤ c → c < n2 → c ≠ 4 → c ≠ 322 → bO c ≠ 4 → bO c ≠ 6 → ∀ j, M2.2.2 c j = 0) ∧ (∀ j, M2.1.2.2 a j = RA j) ∧ ∀ c, a ≤ c → c < n2 → M2.2.1 c = Z c
theorem GWz.f {M : pM} {a ci : Nat} (f : FR M a ci) : GWz M M a (a + 1) (fun _ => none) (fun _ _ => 0) := by
  obtain ⟨f1, f2, f3, f4, f5⟩ := f
  exact ⟨⟨f1, f1, by omega⟩, fun _ _ => rfl, fun _ _ => ⟨rfl, rfl, rfl⟩, fun c h1 h2 => absurd h2 (by omega), fun c h1 h2 _ _ _ _ j => by rw [show c = a by omega, f5], fun j => by rw [f3], fun c h1 h2 => by rw [show c = a by omega, f4]⟩
theorem GWz.S {M M2 M3 : pM} {a n2 : Nat} {RA : Nat → Option Nat} {Z : Nat → Nat → Int} {x : Nat × Nat × Nat} (h : GWz M M2 a n2 RA Z) (e : M3 = ndS a M2 x) (hk : k0 n2 = (x.1, x.2.1)) (hr : n2 ∉ rZ) (hz : Z n2 = fun _ => 0) : GWz M M3 a (n2 + 1) (va_up RA x.2.2 (some n2)) Z := by
  obtain ⟨⟨h0, h1, h1b⟩, h2, h3, h4, h5, h6, h7⟩ := h
  subst e
  refine ⟨⟨h0, by rw [ndS_n, h1], by omega⟩, fun c hc => by rw [ndS_k (by omega)]; exact h2 c hc, fun c hc => ⟨by rw [ndS_r (by omega) (by omega)]; exact (h3 c hc).1, by rw [(ndS_i (by omega)).1]; exact (h3 c hc).2.1, by rw [(ndS_i (by omega)).2]; exact (h3 c hc).2.2⟩, fun c q1 q2 => ?_, fun c q1 q2 w1 w2 w3 w4 j => ?_, fun j => ?_, fun c q1 q2 => ?_⟩
  · by_cases u : c = n2
    · rw [u, ← h1]
      exact ⟨by rw [ndS_ka, h1, hk], fun j => by rw [ndS_ra (by omega), h1, r0_none hr]⟩
    · rw [ndS_k (by omega), ndS_r (by omega) (by omega)]; exact h4 c q1 (by omega)
  · by_cases u : c = n2
    · rw [u, ← h1, ndS_ia.2]
    · rw [(ndS_i (by omega)).2]; exact h5 c q1 (by omega) w1 w2 w3 w4 j
  · rw [ndS_rr (by omega), h1]
    by_cases u : j = x.2.2
    · rw [u, up_at, up_at]
    · rw [up_ne u, up_ne u]; exact h6 j
  · by_cases u : c = n2
    · rw [u, ← h1, ndS_ia.1, h1, hz]
    · rw [(ndS_i (by omega)).1]; exact h7 c q1 (by omega)
theorem GWz.I {M M2 : pM} {a n2 c k : Nat} {z : Int} {RA : Nat → Option Nat} {Z : Nat → Nat → Int} (h : GWz M M2 a n2 RA Z) (hc : a ≤ c) : GWz M (pI M2 c k z) a n2 RA (pU Z c k z) := by
  obtain ⟨h1, h2, h3, h4, h5, h6, h7⟩ := h
  refine ⟨h1, h2, fun b hb => ⟨(h3 b hb).1, (pI_ne (by omega)).trans (h3 b hb).2.1, (h3 b hb).2.2⟩, h4, h5, h6, fun b q1 q2 => ?_⟩
  by_cases u : b = c
  · rw [u, pI_eq, pU_at, h7 c hc (by omega)]
  · rw [pI_ne u, pU_ne u]; exact h7 b q1 q2
theorem GWz.J {M M2 : pM} {a n2 k : Nat} {v : Int64} {RA : Nat → Option Nat} {Z : Nat → Nat → Int} (h : GWz M M2 a n2 RA Z) (hc : a ≤ 322) : GWz M (pJ M2 322 k v) a n2 RA Z := by
  obtain ⟨h1, h2, h3, h4, h5, h6, h7⟩ := h
  refine ⟨h1, h2, fun b hb => ⟨(h3 b hb).1, (h3 b hb).2.1, ?_⟩, h4, fun b q1 q2 w1 w2 w3 w4 j => ?_, h6, h7⟩
  · show pU M2.2.2 322 k v b = _
    rw [pU_ne (by omega)]; exact (h3 b hb).2.2
  · show pU M2.2.2 322 k v b j = _
    rw [pU_ne w2]; exact h5 b q1 q2 w1 w2 w3 w4 j
theorem GWz.eq {M M2 : pM} {a n2 : Nat} {RA : Nat → Option Nat} {Z : Nat → Nat → Int} (h : GWz M M2 a n2 RA Z) (h1 : ∀ j, RA j = r0 a j) (h2 : ∀ c, a ≤ c → c < n2 → ∀ j, Z c j = z0 c j) : GW M M2 a n2 := by
  obtain ⟨g1, g2, g3, g4, g5, g6, g7⟩ := h
  exact ⟨g1, g2, g3, fun c q1 q2 => ⟨(g4 c q1 q2).1, (g4 c q1 q2).2, fun j => by rw [g7 c (by omega) q2]; exact h2 c (by omega) q2 j⟩, g5, fun j => (g6 j).trans (h1 j), fun j => by rw [g7 a (Nat.le_refl _) g1.2.2]; exact h2 a (Nat.le_refl _) g1.2.2 j⟩
def mW9 (k : Nat) : Int64 := match k with
  | 0 => 22701
  | 1 => 2230448
  | 2 => 919275859
  | 3 => 16633
  | 4 => 29457
  | 5 => 609728
  | 6 => 583696626
  | 7 => 99
  | 8 => 614923
  | 9 => 34200674
  | 10 => 6555494
  | 11 => 356685
  | 12 => 1037755
  | 13 => 36072600
  | 14 => 8777432688
  | 15 => 4669
  | 16 => 1327185324
  | _ => 0
set_option maxHeartbeats 4000000 in
theorem c_X12_init {d : Nat} {M : pM}  (hf : FR M 317 12) : Ct (d + 1) 33 54281 yX12_init [.ref 317] M (fun v M2 => v = none ∧ GW M M2 317 351 ∧ ∀ k, k < 17 → M2.2.2 322 k = mW9 k) := by
  refine ct_in (d := d) kX12_init rfl (by decide) (Nat.le_of_ble_eq_true rfl) (by decide) ?_
  show Go (Ct d) _ yX12_init cX12_init none 33 54281 0 [some (.ref 317), none] [] M
  have kk0 := hf.2.1
  have l0 : 317 < M.1.1 := by rw [hf.1]; omega
  refine r_aload0 (pc2 := 1) dX12_init_0 rfl ?_
  refine go_oini dX12_init_1 oX12_18 (by decide) ?_
  have g0 := GWz.f hf
  refine r_aload0 (pc2 := 5) dX12_init_4 rfl ?_
  refine r_sipush (pc2 := 8) dX12_init_5 rfl (by decide) (by decide) ?_
  refine r_nap (t := 2) (n := 1000) (kc := 32) (ks := 53281) (pc1 := 10) (pc2 := 13) dX12_init_8 rfl (Or.inl ⟨rfl, rfl⟩) rfl (by decide) dX12_init_10 rfl fX12_14 (wf12_1 rfl rfl) kk0 (by decide) l0 (fun M1 e1 k1 l1 => ?_)
  have g1 := g0.S e1 (by decide +kernel) (by decide) rfl
  refine r_aload0 (pc2 := 14) dX12_init_13 rfl ?_
  refine r_sipush (pc2 := 17) dX12_init_14 rfl (by decide) (by decide) ?_
  refine r_nap (t := 2) (n := 1002) (kc := 31) (ks := 52279) (pc1 := 19) (pc2 := 22) dX12_init_17 rfl (Or.inl ⟨rfl, rfl⟩) rfl (by decide) dX12_init_19 rfl fX12_24 (wf12_4 rfl rfl) k1 (by decide) l1 (fun M2 e2 k2 l2 => ?_)
  have g2 := g1.S e2 (by decide +kernel) (by decide) rfl
  refine r_aload0 (pc2 := 23) dX12_init_22 rfl ?_
  refine r_sipush (pc2 := 26) dX12_init_23 rfl (by decide) (by decide) ?_
  refine r_nap (t := 2) (n := 1002) (kc := 30) (ks := 51277) (pc1 := 28) (pc2 := 31) dX12_init_26 rfl (Or.inl ⟨rfl, rfl⟩) rfl (by decide) dX12_init_28 rfl fX12_27 (wf12_5 rfl rfl) k2 (by decide) l2 (fun M3 e3 k3 l3 => ?_)
  have g3 := g2.S e3 (by decide +kernel) (by decide) rfl
  refine r_aload0 (pc2 := 32) dX12_init_31 rfl ?_
  refine r_sipush (pc2 := 35) dX12_init_32 rfl (by decide) (by decide) ?_
  refine r_nap (t := 3) (n := 1002) (kc := 29) (ks := 50275) (pc1 := 37) (pc2 := 40) dX12_init_35 rfl (Or.inr (Or.inl ⟨rfl, rfl⟩)) rfl (by decide) dX12_init_37 rfl fX12_30 (wf12_6 rfl rfl) k3 (by decide) l3 (fun M4 e4 k4 l4 => ?_)
  have g4 := g3.S e4 (by decide +kernel) (by decide) rfl
  refine r_aload0 (pc2 := 41) dX12_init_40 rfl ?_
  refine r_bipush (pc2 := 43) dX12_init_41 rfl (by decide) (by decide) ?_
  have n4 : M4.1.1 = 322 := g4.1.2.1
  refine go_newa (t := 3) (n := 17) (kc := 28) (ks := 50258) dX12_init_43 (Or.inr (Or.inl ⟨rfl, rfl⟩)) rfl (by decide) ?_
  have kw : (pNew M4 3 17).1.2.1 M4.1.1 = (3, 17) := up_at
  rw [n4] at kw ⊢
  refine r_dup (pc2 := 46) dX12_init_45 rfl rfl ?_
  refine r_iconst (pc2 := 47) dX12_init_46 rfl ?_
  refine r_ldc2 (x := 22701) (pc2 := 50) dX12_init_47 rfl (pIn 1075 (by decide +kernel)) ?_
  refine r_last (pc2 := 51) dX12_init_50 rfl kw (by decide) 0 rfl (by decide) ?_
  refine r_dup (pc2 := 52) dX12_init_51 rfl rfl ?_
  refine r_iconst (pc2 := 53) dX12_init_52 rfl ?_
  refine r_ldc2 (x := 2230448) (pc2 := 56) dX12_init_53 rfl (pIn 1076 (by decide +kernel)) ?_
  refine r_last (pc2 := 57) dX12_init_56 rfl kw (by decide) 1 rfl (by decide) ?_
  refine r_dup (pc2 := 58) dX12_init_57 rfl rfl ?_
  refine r_iconst (pc2 := 59) dX12_init_58 rfl ?_
  refine r_ldc2 (x := 919275859) (pc2 := 62) dX12_init_59 rfl (pIn 1077 (by decide +kernel)) ?_
  refine r_last (pc2 := 63) dX12_init_62 rfl kw (by decide) 2 rfl (by decide) ?_
  refine r_dup (pc2 := 64) dX12_init_63 rfl rfl ?_
  refine r_iconst (pc2 := 65) dX12_init_64 rfl ?_
  refine r_ldc2 (x := 16633) (pc2 := 68) dX12_init_65 rfl (pIn 1078 (by decide +kernel)) ?_
  refine r_last (pc2 := 69) dX12_init_68 rfl kw (by decide) 3 rfl (by decide) ?_
  refine r_dup (pc2 := 70) dX12_init_69 rfl rfl ?_
  refine r_iconst (pc2 := 71) dX12_init_70 rfl ?_
  refine r_ldc2 (x := 29457) (pc2 := 74) dX12_init_71 rfl (pIn 1079 (by decide +kernel)) ?_
  refine r_last (pc2 := 75) dX12_init_74 rfl kw (by decide) 4 rfl (by decide) ?_
  refine r_dup (pc2 := 76) dX12_init_75 rfl rfl ?_
  refine r_iconst (pc2 := 77) dX12_init_76 rfl ?_
  refine r_ldc2 (x := 609728) (pc2 := 80) dX12_init_77 rfl (pIn 1080 (by decide +kernel)) ?_
  refine r_last (pc2 := 81) dX12_init_80 rfl kw (by decide) 5 rfl (by decide) ?_
  refine r_dup (pc2 := 82) dX12_init_81 rfl rfl ?_
  refine r_bipush (pc2 := 84) dX12_init_82 rfl (by decide) (by decide) ?_
  refine r_ldc2 (x := 583696626) (pc2 := 87) dX12_init_84 rfl (pIn 1081 (by decide +kernel)) ?_
  refine r_last (pc2 := 88) dX12_init_87 rfl kw (by decide) 6 rfl (by decide) ?_
  refine r_dup (pc2 := 89) dX12_init_88 rfl rfl ?_
  refine r_bipush (pc2 := 91) dX12_init_89 rfl (by decide) (by decide) ?_
  refine r_ldc2 (x := 99) (pc2 := 94) dX12_init_91 rfl (pIn 1082 (by decide +kernel)) ?_
  refine r_last (pc2 := 95) dX12_init_94 rfl kw (by decide) 7 rfl (by decide) ?_
  refine r_dup (pc2 := 96) dX12_init_95 rfl rfl ?_
  refine r_bipush (pc2 := 98) dX12_init_96 rfl (by decide) (by decide) ?_
  refine r_ldc2 (x := 614923) (pc2 := 101) dX12_init_98 rfl (pIn 1083 (by decide +kernel)) ?_
  refine r_last (pc2 := 102) dX12_init_101 rfl kw (by decide) 8 rfl (by decide) ?_
  refine r_dup (pc2 := 103) dX12_init_102 rfl rfl ?_
  refine r_bipush (pc2 := 105) dX12_init_103 rfl (by decide) (by decide) ?_
  refine r_ldc2 (x := 34200674) (pc2 := 108) dX12_init_105 rfl (pIn 1084 (by decide +kernel)) ?_
  refine r_last (pc2 := 109) dX12_init_108 rfl kw (by decide) 9 rfl (by decide) ?_
  refine r_dup (pc2 := 110) dX12_init_109 rfl rfl ?_
  refine r_bipush (pc2 := 112) dX12_init_110 rfl (by decide) (by decide) ?_
  refine r_ldc2 (x := 6555494) (pc2 := 115) dX12_init_112 rfl (pIn 1085 (by decide +kernel)) ?_
  refine r_last (pc2 := 116) dX12_init_115 rfl kw (by decide) 10 rfl (by decide) ?_
  refine r_dup (pc2 := 117) dX12_init_116 rfl rfl ?_
  refine r_bipush (pc2 := 119) dX12_init_117 rfl (by decide) (by decide) ?_
  refine r_ldc2 (x := 356685) (pc2 := 122) dX12_init_119 rfl (pIn 1086 (by decide +kernel)) ?_
  refine r_last (pc2 := 123) dX12_init_122 rfl kw (by decide) 11 rfl (by decide) ?_
  refine r_dup (pc2 := 124) dX12_init_123 rfl rfl ?_
  refine r_bipush (pc2 := 126) dX12_init_124 rfl (by decide) (by decide) ?_
  refine r_ldc2 (x := 1037755) (pc2 := 129) dX12_init_126 rfl (pIn 1087 (by decide +kernel)) ?_
  refine r_last (pc2 := 130) dX12_init_129 rfl kw (by decide) 12 rfl (by decide) ?_
  refine r_dup (pc2 := 131) dX12_init_130 rfl rfl ?_
  refine r_bipush (pc2 := 133) dX12_init_131 rfl (by decide) (by decide) ?_
  refine r_ldc2 (x := 36072600) (pc2 := 136) dX12_init_133 rfl (pIn 1088 (by decide +kernel)) ?_
  refine r_last (pc2 := 137) dX12_init_136 rfl kw (by decide) 13 rfl (by decide) ?_
  refine r_dup (pc2 := 138) dX12_init_137 rfl rfl ?_
  refine r_bipush (pc2 := 140) dX12_init_138 rfl (by decide) (by decide) ?_
  refine r_ldc2 (x := 8777432688) (pc2 := 143) dX12_init_140 rfl (pIn 1089 (by decide +kernel)) ?_
  refine r_last (pc2 := 144) dX12_init_143 rfl kw (by decide) 14 rfl (by decide) ?_
  refine r_dup (pc2 := 145) dX12_init_144 rfl rfl ?_
  refine r_bipush (pc2 := 147) dX12_init_145 rfl (by decide) (by decide) ?_
  refine r_ldc2 (x := 4669) (pc2 := 150) dX12_init_147 rfl (pIn 1090 (by decide +kernel)) ?_
  refine r_last (pc2 := 151) dX12_init_150 rfl kw (by decide) 15 rfl (by decide) ?_
  refine r_dup (pc2 := 152) dX12_init_151 rfl rfl ?_
  refine r_bipush (pc2 := 154) dX12_init_152 rfl (by decide) (by decide) ?_
  refine r_ldc2 (x := 1327185324) (pc2 := 157) dX12_init_154 rfl (pIn 1091 (by decide +kernel)) ?_
  refine r_last (pc2 := 158) dX12_init_157 rfl kw (by decide) 16 rfl (by decide) ?_
  refine r_putR (b := 322) (pc2 := 161) dX12_init_158 rfl fX12_68 (wf12_9 rfl rfl) (by show (pNew M4 3 17).1.2.1 317 = _; rw [show (pNew M4 3 17).1.2.1 317 = M4.1.2.1 317 from up_ne (by omega)]; exact k4) (by decide) ?_
  obtain ⟨M5, e5⟩ : ∃ M5, M5 = (pJ (pJ (pJ (pJ (pJ (pJ (pJ (pJ (pJ (pJ (pJ (pJ (pJ (pJ (pJ (pJ (pJ (pR (pNew M4 3 17) 317 9 (some 322)) 322 0 22701) 322 1 2230448) 322 2 919275859) 322 3 16633) 322 4 29457) 322 5 609728) 322 6 583696626) 322 7 99) 322 8 614923) 322 9 34200674) 322 10 6555494) 322 11 356685) 322 12 1037755) 322 13 36072600) 322 14 8777432688) 322 15 4669) 322 16 1327185324) := ⟨_, rfl⟩
  have gw : GWz M (pR (pNew M4 3 17) 317 9 (some 322)) 317 323 _ (fun _ _ => 0) := g4.S (x := (3, 17, 9)) (by show _ = pR (pNew M4 3 17) 317 9 (some M4.1.1); rw [n4]) (by decide +kernel) (by decide) rfl
  have g5 := (((((((((((((((((gw.J (k := 0) (v := 22701) (by decide)).J (k := 1) (v := 2230448) (by decide)).J (k := 2) (v := 919275859) (by decide)).J (k := 3) (v := 16633) (by decide)).J (k := 4) (v := 29457) (by decide)).J (k := 5) (v := 609728) (by decide)).J (k := 6) (v := 583696626) (by decide)).J (k := 7) (v := 99) (by decide)).J (k := 8) (v := 614923) (by decide)).J (k := 9) (v := 34200674) (by decide)).J (k := 10) (v := 6555494) (by decide)).J (k := 11) (v := 356685) (by decide)).J (k := 12) (v := 1037755) (by decide)).J (k := 13) (v := 36072600) (by decide)).J (k := 14) (v := 8777432688) (by decide)).J (k := 15) (v := 4669) (by decide)).J (k := 16) (v := 1327185324) (by decide))
  rw [← e5] at g5
  have w5 : ∀ k, k < 17 → M5.2.2 322 k = mW9 k := fun k hk => by
    rw [e5]
    match k with
    | 0 => rfl
    | 1 => rfl
    | 2 => rfl
    | 3 => rfl
    | 4 => rfl
    | 5 => rfl
    | 6 => rfl
    | 7 => rfl
    | 8 => rfl
    | 9 => rfl
    | 10 => rfl
    | 11 => rfl
    | 12 => rfl
    | 13 => rfl
    | 14 => rfl
    | 15 => rfl
    | 16 => rfl
    | k + 17 => exact absurd hk (by omega)
  have k5 : M5.1.2.1 317 = (1, 12) := (g5.2.1 317 (by decide)).trans hf.2.1
  have l5 : 317 < M5.1.1 := by rw [g5.1.2.1]; decide
  show Go (Ct d) _ yX12_init cX12_init none 28 50258 161 [some (.ref 317), none] [] (pJ (pJ (pJ (pJ (pJ (pJ (pJ (pJ (pJ (pJ (pJ (pJ (pJ (pJ (pJ (pJ (pJ (pR (pNew M4 3 17) 317 9 (some 322)) 322 0 22701) 322 1 2230448) 322 2 919275859) 322 3 16633) 322 4 29457) 322 5 609728) 322 6 583696626) 322 7 99) 322 8 614923) 322 9 34200674) 322 10 6555494) 322 11 356685) 322 12 1037755) 322 13 36072600) 322 14 8777432688) 322 15 4669) 322 16 1327185324)
  rw [← e5]
  refine r_aload0 (pc2 := 162) dX12_init_161 rfl ?_
  refine r_sipush (pc2 := 165) dX12_init_162 rfl (by decide) (by decide) ?_
  refine r_nap (t := 2) (n := 1100) (kc := 27) (ks := 49158) (pc1 := 167) (pc2 := 170) dX12_init_165 rfl (Or.inl ⟨rfl, rfl⟩) rfl (by decide) dX12_init_167 rfl fX12_71 (wf12_11 rfl rfl) k5 (by decide) l5 (fun M6 e6 k6 l6 => ?_)
  have g6 := g5.S e6 (by decide +kernel) (by decide) rfl
  refine r_aload0 (pc2 := 171) dX12_init_170 rfl ?_
  refine r_sipush (pc2 := 174) dX12_init_171 rfl (by decide) (by decide) ?_
  refine r_nap (t := 2) (n := 5500) (kc := 26) (ks := 43658) (pc1 := 176) (pc2 := 179) dX12_init_174 rfl (Or.inl ⟨rfl, rfl⟩) rfl (by decide) dX12_init_176 rfl fX12_74 (wf12_12 rfl rfl) k6 (by decide) l6 (fun M7 e7 k7 l7 => ?_)
  have g7 := g6.S e7 (by decide +kernel) (by decide) rfl
  refine r_aload0 (pc2 := 180) dX12_init_179 rfl ?_
  refine r_sipush (pc2 := 183) dX12_init_180 rfl (by decide) (by decide) ?_
  refine r_nap (t := 2) (n := 1100) (kc := 25) (ks := 42558) (pc1 := 185) (pc2 := 188) dX12_init_183 rfl (Or.inl ⟨rfl, rfl⟩) rfl (by decide) dX12_init_185 rfl fX12_77 (wf12_13 rfl rfl) k7 (by decide) l7 (fun M8 e8 k8 l8 => ?_)
  have g8 := g7.S e8 (by decide +kernel) (by decide) rfl
  refine r_aload0 (pc2 := 189) dX12_init_188 rfl ?_
  refine r_bipush (pc2 := 191) dX12_init_189 rfl (by decide) (by decide) ?_
  refine r_nap (t := 3) (n := 30) (kc := 24) (ks := 42528) (pc1 := 193) (pc2 := 196) dX12_init_191 rfl (Or.inr (Or.inl ⟨rfl, rfl⟩)) rfl (by decide) dX12_init_193 rfl fX12_80 (wf12_15 rfl rfl) k8 (by decide) l8 (fun M9 e9 k9 l9 => ?_)
  have g9 := g8.S e9 (by decide +kernel) (by decide) rfl
  refine r_aload0 (pc2 := 197) dX12_init_196 rfl ?_
  refine r_bipush (pc2 := 199) dX12_init_197 rfl (by decide) (by decide) ?_
  refine r_nap (t := 2) (n := 30) (kc := 23) (ks := 42498) (pc1 := 201) (pc2 := 204) dX12_init_199 rfl (Or.inl ⟨rfl, rfl⟩) rfl (by decide) dX12_init_201 rfl fX12_83 (wf12_16 rfl rfl) k9 (by decide) l9 (fun M10 e10 k10 l10 => ?_)
  have g10 := g9.S e10 (by decide +kernel) (by decide) rfl
  refine r_aload0 (pc2 := 205) dX12_init_204 rfl ?_
  refine r_sipush (pc2 := 208) dX12_init_205 rfl (by decide) (by decide) ?_
  refine r_nap (t := 2) (n := 4368) (kc := 22) (ks := 38130) (pc1 := 210) (pc2 := 213) dX12_init_208 rfl (Or.inl ⟨rfl, rfl⟩) rfl (by decide) dX12_init_210 rfl fX12_86 (wf12_17 rfl rfl) k10 (by decide) l10 (fun M11 e11 k11 l11 => ?_)
  have g11 := g10.S e11 (by decide +kernel) (by decide) rfl
  refine r_aload0 (pc2 := 214) dX12_init_213 rfl ?_
  refine r_sipush (pc2 := 217) dX12_init_214 rfl (by decide) (by decide) ?_
  refine r_nap (t := 2) (n := 4368) (kc := 21) (ks := 33762) (pc1 := 219) (pc2 := 222) dX12_init_217 rfl (Or.inl ⟨rfl, rfl⟩) rfl (by decide) dX12_init_219 rfl fX12_89 (wf12_18 rfl rfl) k11 (by decide) l11 (fun M12 e12 k12 l12 => ?_)
  have g12 := g11.S e12 (by decide +kernel) (by decide) rfl
  refine r_aload0 (pc2 := 223) dX12_init_222 rfl ?_
  refine r_sipush (pc2 := 226) dX12_init_223 rfl (by decide) (by decide) ?_
  refine r_nap (t := 2) (n := 4368) (kc := 20) (ks := 29394) (pc1 := 228) (pc2 := 231) dX12_init_226 rfl (Or.inl ⟨rfl, rfl⟩) rfl (by decide) dX12_init_228 rfl fX12_92 (wf12_19 rfl rfl) k12 (by decide) l12 (fun M13 e13 k13 l13 => ?_)
  have g13 := g12.S e13 (by decide +kernel) (by decide) rfl
  refine r_aload0 (pc2 := 232) dX12_init_231 rfl ?_
  refine r_sipush (pc2 := 235) dX12_init_232 rfl (by decide) (by decide) ?_
  refine r_nap (t := 2) (n := 364) (kc := 19) (ks := 29030) (pc1 := 237) (pc2 := 240) dX12_init_235 rfl (Or.inl ⟨rfl, rfl⟩) rfl (by decide) dX12_init_237 rfl fX12_95 (wf12_20 rfl rfl) k13 (by decide) l13 (fun M14 e14 k14 l14 => ?_)
  have g14 := g13.S e14 (by decide +kernel) (by decide) rfl
  refine r_aload0 (pc2 := 241) dX12_init_240 rfl ?_
  refine r_bipush (pc2 := 243) dX12_init_241 rfl (by decide) (by decide) ?_
  refine r_nap (t := 2) (n := 112) (kc := 18) (ks := 28918) (pc1 := 245) (pc2 := 248) dX12_init_243 rfl (Or.inl ⟨rfl, rfl⟩) rfl (by decide) dX12_init_245 rfl fX12_98 (wf12_21 rfl rfl) k14 (by decide) l14 (fun M15 e15 k15 l15 => ?_)
  have g15 := g14.S e15 (by decide +kernel) (by decide) rfl
  refine r_aload0 (pc2 := 249) dX12_init_248 rfl ?_
  refine r_bipush (pc2 := 251) dX12_init_249 rfl (by decide) (by decide) ?_
  refine r_nap (t := 2) (n := 112) (kc := 17) (ks := 28806) (pc1 := 253) (pc2 := 256) dX12_init_251 rfl (Or.inl ⟨rfl, rfl⟩) rfl (by decide) dX12_init_253 rfl fX12_101 (wf12_22 rfl rfl) k15 (by decide) l15 (fun M16 e16 k16 l16 => ?_)
  have g16 := g15.S e16 (by decide +kernel) (by decide) rfl
  refine r_aload0 (pc2 := 257) dX12_init_256 rfl ?_
  refine r_bipush (pc2 := 259) dX12_init_257 rfl (by decide) (by decide) ?_
  refine r_nap (t := 2) (n := 112) (kc := 16) (ks := 28694) (pc1 := 261) (pc2 := 264) dX12_init_259 rfl (Or.inl ⟨rfl, rfl⟩) rfl (by decide) dX12_init_261 rfl fX12_104 (wf12_23 rfl rfl) k16 (by decide) l16 (fun M17 e17 k17 l17 => ?_)
  have g17 := g16.S e17 (by decide +kernel) (by decide) rfl
  refine r_aload0 (pc2 := 265) dX12_init_264 rfl ?_
  refine r_sipush (pc2 := 268) dX12_init_265 rfl (by decide) (by decide) ?_
  refine r_nap (t := 2) (n := 312) (kc := 15) (ks := 28382) (pc1 := 270) (pc2 := 273) dX12_init_268 rfl (Or.inl ⟨rfl, rfl⟩) rfl (by decide) dX12_init_270 rfl fX12_107 (wf12_29 rfl rfl) k17 (by decide) l17 (fun M18 e18 k18 l18 => ?_)
  have g18 := g17.S e18 (by decide +kernel) (by decide) rfl
  refine r_aload0 (pc2 := 274) dX12_init_273 rfl ?_
  refine r_sipush (pc2 := 277) dX12_init_274 rfl (by decide) (by decide) ?_
  refine r_nap (t := 2) (n := 156) (kc := 14) (ks := 28226) (pc1 := 279) (pc2 := 282) dX12_init_277 rfl (Or.inl ⟨rfl, rfl⟩) rfl (by decide) dX12_init_279 rfl fX12_110 (wf12_30 rfl rfl) k18 (by decide) l18 (fun M19 e19 k19 l19 => ?_)
  have g19 := g18.S e19 (by decide +kernel) (by decide) rfl
  refine r_aload0 (pc2 := 283) dX12_init_282 rfl ?_
  refine r_bipush (pc2 := 285) dX12_init_283 rfl (by decide) (by decide) ?_
  refine r_nap (t := 2) (n := 100) (kc := 13) (ks := 28126) (pc1 := 287) (pc2 := 290) dX12_init_285 rfl (Or.inl ⟨rfl, rfl⟩) rfl (by decide) dX12_init_287 rfl fX12_113 (wf12_33 rfl rfl) k19 (by decide) l19 (fun M20 e20 k20 l20 => ?_)
  have g20 := g19.S e20 (by decide +kernel) (by decide) rfl
  refine r_aload0 (pc2 := 291) dX12_init_290 rfl ?_
  refine r_sipush (pc2 := 294) dX12_init_291 rfl (by decide) (by decide) ?_
  refine r_nap (t := 3) (n := 4000) (kc := 12) (ks := 24126) (pc1 := 296) (pc2 := 299) dX12_init_294 rfl (Or.inr (Or.inl ⟨rfl, rfl⟩)) rfl (by decide) dX12_init_296 rfl fX12_116 (wf12_34 rfl rfl) k20 (by decide) l20 (fun M21 e21 k21 l21 => ?_)
  have g21 := g20.S e21 (by decide +kernel) (by decide) rfl
  refine r_aload0 (pc2 := 300) dX12_init_299 rfl ?_
  refine r_sipush (pc2 := 303) dX12_init_300 rfl (by decide) (by decide) ?_
  refine r_nap (t := 3) (n := 4000) (kc := 11) (ks := 20126) (pc1 := 305) (pc2 := 308) dX12_init_303 rfl (Or.inr (Or.inl ⟨rfl, rfl⟩)) rfl (by decide) dX12_init_305 rfl fX12_119 (wf12_35 rfl rfl) k21 (by decide) l21 (fun M22 e22 k22 l22 => ?_)
  have g22 := g21.S e22 (by decide +kernel) (by decide) rfl
  refine r_aload0 (pc2 := 309) dX12_init_308 rfl ?_
  refine r_sipush (pc2 := 312) dX12_init_309 rfl (by decide) (by decide) ?_
  refine r_nap (t := 2) (n := 4000) (kc := 10) (ks := 16126) (pc1 := 314) (pc2 := 317) dX12_init_312 rfl (Or.inl ⟨rfl, rfl⟩) rfl (by decide) dX12_init_314 rfl fX12_122 (wf12_36 rfl rfl) k22 (by decide) l22 (fun M23 e23 k23 l23 => ?_)
  have g23 := g22.S e23 (by decide +kernel) (by decide) rfl
  refine r_aload0 (pc2 := 318) dX12_init_317 rfl ?_
  refine r_sipush (pc2 := 321) dX12_init_318 rfl (by decide) (by decide) ?_
  refine r_nap (t := 2) (n := 4000) (kc := 9) (ks := 12126) (pc1 := 323) (pc2 := 326) dX12_init_321 rfl (Or.inl ⟨rfl, rfl⟩) rfl (by decide) dX12_init_323 rfl fX12_125 (wf12_37 rfl rfl) k23 (by decide) l23 (fun M24 e24 k24 l24 => ?_)
  have g24 := g23.S e24 (by decide +kernel) (by decide) rfl
  refine r_aload0 (pc2 := 327) dX12_init_326 rfl ?_
  refine r_sipush (pc2 := 330) dX12_init_327 rfl (by decide) (by decide) ?_
  refine r_nap (t := 2) (n := 8192) (kc := 8) (ks := 3934) (pc1 := 332) (pc2 := 335) dX12_init_330 rfl (Or.inl ⟨rfl, rfl⟩) rfl (by decide) dX12_init_332 rfl fX12_128 (wf12_39 rfl rfl) k24 (by decide) l24 (fun M25 e25 k25 l25 => ?_)
  have g25 := g24.S e25 (by decide +kernel) (by decide) rfl
  refine r_aload0 (pc2 := 336) dX12_init_335 rfl ?_
  refine r_iconst (pc2 := 337) dX12_init_336 rfl ?_
  refine r_nap (t := 5) (n := 4) (kc := 7) (ks := 3930) (pc1 := 339) (pc2 := 342) dX12_init_337 rfl (Or.inr (Or.inr (Or.inr ⟨rfl, rfl⟩))) rfl (by decide) dX12_init_339 rfl fX12_131 (wf12_42 rfl rfl) k25 (by decide) l25 (fun M26 e26 k26 l26 => ?_)
  have g26 := g25.S e26 (by decide +kernel) (by decide) rfl
  refine r_aload0 (pc2 := 343) dX12_init_342 rfl ?_
  refine r_sipush (pc2 := 346) dX12_init_343 rfl (by decide) (by decide) ?_
  refine r_nap (t := 2) (n := 3001) (kc := 6) (ks := 929) (pc1 := 348) (pc2 := 351) dX12_init_346 rfl (Or.inl ⟨rfl, rfl⟩) rfl (by decide) dX12_init_348 rfl fX12_135 (wf12_43 rfl rfl) k26 (by decide) l26 (fun M27 e27 k27 l27 => ?_)
  have g27 := g26.S e27 (by decide +kernel) (by decide) rfl
  refine r_aload0 (pc2 := 352) dX12_init_351 rfl ?_
  refine r_bipush (pc2 := 354) dX12_init_352 rfl (by decide) (by decide) ?_
  refine r_nap (t := 2) (n := 12) (kc := 5) (ks := 917) (pc1 := 356) (pc2 := 359) dX12_init_354 rfl (Or.inl ⟨rfl, rfl⟩) rfl (by decide) dX12_init_356 rfl fX12_138 (wf12_46 rfl rfl) k27 (by decide) l27 (fun M28 e28 k28 l28 => ?_)
  have g28 := g27.S e28 (by decide +kernel) (by decide) rfl
  refine r_aload0 (pc2 := 360) dX12_init_359 rfl ?_
  refine r_bipush (pc2 := 362) dX12_init_360 rfl (by decide) (by decide) ?_
  refine r_nap (t := 2) (n := 12) (kc := 4) (ks := 905) (pc1 := 364) (pc2 := 367) dX12_init_362 rfl (Or.inl ⟨rfl, rfl⟩) rfl (by decide) dX12_init_364 rfl fX12_141 (wf12_47 rfl rfl) k28 (by decide) l28 (fun M29 e29 k29 l29 => ?_)
  have g29 := g28.S e29 (by decide +kernel) (by decide) rfl
  refine r_aload0 (pc2 := 368) dX12_init_367 rfl ?_
  refine r_bipush (pc2 := 370) dX12_init_368 rfl (by decide) (by decide) ?_
  refine r_nap (t := 2) (n := 60) (kc := 3) (ks := 845) (pc1 := 372) (pc2 := 375) dX12_init_370 rfl (Or.inl ⟨rfl, rfl⟩) rfl (by decide) dX12_init_372 rfl fX12_144 (wf12_49 rfl rfl) k29 (by decide) l29 (fun M30 e30 k30 l30 => ?_)
  have g30 := g29.S e30 (by decide +kernel) (by decide) rfl
  refine r_aload0 (pc2 := 376) dX12_init_375 rfl ?_
  refine r_bipush (pc2 := 378) dX12_init_376 rfl (by decide) (by decide) ?_
  refine r_nap (t := 2) (n := 60) (kc := 2) (ks := 785) (pc1 := 380) (pc2 := 383) dX12_init_378 rfl (Or.inl ⟨rfl, rfl⟩) rfl (by decide) dX12_init_380 rfl fX12_147 (wf12_50 rfl rfl) k30 (by decide) l30 (fun M31 e31 k31 l31 => ?_)
  have g31 := g30.S e31 (by decide +kernel) (by decide) rfl
  refine r_aload0 (pc2 := 384) dX12_init_383 rfl ?_
  refine r_sipush (pc2 := 387) dX12_init_384 rfl (by decide) (by decide) ?_
  refine r_nap (t := 2) (n := 157) (kc := 1) (ks := 628) (pc1 := 389) (pc2 := 392) dX12_init_387 rfl (Or.inl ⟨rfl, rfl⟩) rfl (by decide) dX12_init_389 rfl fX12_150 (wf12_52 rfl rfl) k31 (by decide) l31 (fun M32 e32 k32 l32 => ?_)
  have g32 := g31.S e32 (by decide +kernel) (by decide) rfl
  refine r_aload0 (pc2 := 393) dX12_init_392 rfl ?_
  refine r_sipush (pc2 := 396) dX12_init_393 rfl (by decide) (by decide) ?_
  refine r_nap (t := 2) (n := 628) (kc := 0) (ks := 0) (pc1 := 398) (pc2 := 401) dX12_init_396 rfl (Or.inl ⟨rfl, rfl⟩) rfl (by decide) dX12_init_398 rfl fX12_153 (wf12_53 rfl rfl) k32 (by decide) l32 (fun M33 e33 k33 l33 => ?_)
  have g33 := g32.S e33 (by decide +kernel) (by decide) rfl
  have kz : M33.1.2.1 317 = (1, 12) := k33
  have ra : M33.1.2.2 317 20 = some 331 := (g33.2.2.2.2.2.1 20).trans rfl
  have qa : M33.1.2.1 331 = (2, 364) := (g33.2.2.2.1 331 (by decide) (by decide)).1.trans (by decide +kernel)
  have rb : M33.1.2.2 317 21 = some 332 := (g33.2.2.2.2.2.1 21).trans rfl
  have qb : M33.1.2.1 332 = (2, 112) := (g33.2.2.2.1 332 (by decide) (by decide)).1.trans (by decide +kernel)
  have rc : M33.1.2.2 317 22 = some 333 := (g33.2.2.2.2.2.1 22).trans rfl
  have qc : M33.1.2.1 333 = (2, 112) := (g33.2.2.2.1 333 (by decide) (by decide)).1.trans (by decide +kernel)
  have x5 : ∀ k, M33.2.2 322 k = M5.2.2 322 k := fun k => by
    rw [e33, (ndS_i (by rw [g32.1.2.1]; decide)).2, e32, (ndS_i (by rw [g31.1.2.1]; decide)).2, e31, (ndS_i (by rw [g30.1.2.1]; decide)).2, e30, (ndS_i (by rw [g29.1.2.1]; decide)).2, e29, (ndS_i (by rw [g28.1.2.1]; decide)).2, e28, (ndS_i (by rw [g27.1.2.1]; decide)).2, e27, (ndS_i (by rw [g26.1.2.1]; decide)).2, e26, (ndS_i (by rw [g25.1.2.1]; decide)).2, e25, (ndS_i (by rw [g24.1.2.1]; decide)).2, e24, (ndS_i (by rw [g23.1.2.1]; decide)).2, e23, (ndS_i (by rw [g22.1.2.1]; decide)).2, e22, (ndS_i (by rw [g21.1.2.1]; decide)).2, e21, (ndS_i (by rw [g20.1.2.1]; decide)).2, e20, (ndS_i (by rw [g19.1.2.1]; decide)).2, e19, (ndS_i (by rw [g18.1.2.1]; decide)).2, e18, (ndS_i (by rw [g17.1.2.1]; decide)).2, e17, (ndS_i (by rw [g16.1.2.1]; decide)).2, e16, (ndS_i (by rw [g15.1.2.1]; decide)).2, e15, (ndS_i (by rw [g14.1.2.1]; decide)).2, e14, (ndS_i (by rw [g13.1.2.1]; decide)).2, e13, (ndS_i (by rw [g12.1.2.1]; decide)).2, e12, (ndS_i (by rw [g11.1.2.1]; decide)).2, e11, (ndS_i (by rw [g10.1.2.1]; decide)).2, e10, (ndS_i (by rw [g9.1.2.1]; decide)).2, e9, (ndS_i (by rw [g8.1.2.1]; decide)).2, e8, (ndS_i (by rw [g7.1.2.1]; decide)).2, e7, (ndS_i (by rw [g6.1.2.1]; decide)).2, e6, (ndS_i (by rw [g5.1.2.1]; decide)).2]
  refine r_iconst (pc2 := 402) dX12_init_401 rfl ?_
  refine r_istore1 (pc2 := 403) dX12_init_402 rfl rfl ?_
  refine r_iload1 (pc2 := 404) dX12_init_403 rfl ?_
  refine r_bipush (pc2 := 406) dX12_init_404 rfl (by decide) (by decide) ?_
  refine r_icge (tgt := 422) (pc2 := 409) dX12_init_406 rfl (by decide) ⟨by omega, by omega⟩ ⟨by omega, by omega⟩ (fun h9 => absurd h9 (by decide)) (fun _ => ?_)
  refine r_aload0 (pc2 := 410) dX12_init_409 rfl ?_
  refine r_getR (pc2 := 413) dX12_init_410 rfl fX12_95 kz ra ?_
  refine r_iload1 (pc2 := 414) dX12_init_413 rfl ?_
  refine r_iconst (pc2 := 415) dX12_init_414 rfl ?_
  refine r_iast (z := -1) (pc2 := 416) dX12_init_415 rfl qa (by decide) 0 rfl (by decide) ?_
  refine r_iinc1 (z := 1) (pc2 := 419) dX12_init_416 rfl rfl rfl ?_
  refine r_goto (tgt := 403) dX12_init_419 (by decide) ?_
  refine r_iload1 (pc2 := 404) dX12_init_403 rfl ?_
  refine r_bipush (pc2 := 406) dX12_init_404 rfl (by decide) (by decide) ?_
  refine r_icge (tgt := 422) (pc2 := 409) dX12_init_406 rfl (by decide) ⟨by omega, by omega⟩ ⟨by omega, by omega⟩ (fun h9 => absurd h9 (by decide)) (fun _ => ?_)
  refine r_aload0 (pc2 := 410) dX12_init_409 rfl ?_
  refine r_getR (pc2 := 413) dX12_init_410 rfl fX12_95 kz ra ?_
  refine r_iload1 (pc2 := 414) dX12_init_413 rfl ?_
  refine r_iconst (pc2 := 415) dX12_init_414 rfl ?_
  refine r_iast (z := -1) (pc2 := 416) dX12_init_415 rfl qa (by decide) 1 rfl (by decide) ?_
  refine r_iinc1 (z := 2) (pc2 := 419) dX12_init_416 rfl rfl rfl ?_
  refine r_goto (tgt := 403) dX12_init_419 (by decide) ?_
  refine r_iload1 (pc2 := 404) dX12_init_403 rfl ?_
  refine r_bipush (pc2 := 406) dX12_init_404 rfl (by decide) (by decide) ?_
  refine r_icge (tgt := 422) (pc2 := 409) dX12_init_406 rfl (by decide) ⟨by omega, by omega⟩ ⟨by omega, by omega⟩ (fun h9 => absurd h9 (by decide)) (fun _ => ?_)
  refine r_aload0 (pc2 := 410) dX12_init_409 rfl ?_
  refine r_getR (pc2 := 413) dX12_init_410 rfl fX12_95 kz ra ?_
  refine r_iload1 (pc2 := 414) dX12_init_413 rfl ?_
  refine r_iconst (pc2 := 415) dX12_init_414 rfl ?_
  refine r_iast (z := -1) (pc2 := 416) dX12_init_415 rfl qa (by decide) 2 rfl (by decide) ?_
  refine r_iinc1 (z := 3) (pc2 := 419) dX12_init_416 rfl rfl rfl ?_
  refine r_goto (tgt := 403) dX12_init_419 (by decide) ?_
  refine r_iload1 (pc2 := 404) dX12_init_403 rfl ?_
  refine r_bipush (pc2 := 406) dX12_init_404 rfl (by decide) (by decide) ?_
  refine r_icge (tgt := 422) (pc2 := 409) dX12_init_406 rfl (by decide) ⟨by omega, by omega⟩ ⟨by omega, by omega⟩ (fun h9 => absurd h9 (by decide)) (fun _ => ?_)
  refine r_aload0 (pc2 := 410) dX12_init_409 rfl ?_
  refine r_getR (pc2 := 413) dX12_init_410 rfl fX12_95 kz ra ?_
  refine r_iload1 (pc2 := 414) dX12_init_413 rfl ?_
  refine r_iconst (pc2 := 415) dX12_init_414 rfl ?_
  refine r_iast (z := -1) (pc2 := 416) dX12_init_415 rfl qa (by decide) 3 rfl (by decide) ?_
  refine r_iinc1 (z := 4) (pc2 := 419) dX12_init_416 rfl rfl rfl ?_
  refine r_goto (tgt := 403) dX12_init_419 (by decide) ?_
  refine r_iload1 (pc2 := 404) dX12_init_403 rfl ?_
  refine r_bipush (pc2 := 406) dX12_init_404 rfl (by decide) (by decide) ?_
  refine r_icge (tgt := 422) (pc2 := 409) dX12_init_406 rfl (by decide) ⟨by omega, by omega⟩ ⟨by omega, by omega⟩ (fun h9 => absurd h9 (by decide)) (fun _ => ?_)
  refine r_aload0 (pc2 := 410) dX12_init_409 rfl ?_
  refine r_getR (pc2 := 413) dX12_init_410 rfl fX12_95 kz ra ?_
  refine r_iload1 (pc2 := 414) dX12_init_413 rfl ?_
  refine r_iconst (pc2 := 415) dX12_init_414 rfl ?_
  refine r_iast (z := -1) (pc2 := 416) dX12_init_415 rfl qa (by decide) 4 rfl (by decide) ?_
  refine r_iinc1 (z := 5) (pc2 := 419) dX12_init_416 rfl rfl rfl ?_
  refine r_goto (tgt := 403) dX12_init_419 (by decide) ?_
  refine r_iload1 (pc2 := 404) dX12_init_403 rfl ?_
  refine r_bipush (pc2 := 406) dX12_init_404 rfl (by decide) (by decide) ?_
  refine r_icge (tgt := 422) (pc2 := 409) dX12_init_406 rfl (by decide) ⟨by omega, by omega⟩ ⟨by omega, by omega⟩ (fun h9 => absurd h9 (by decide)) (fun _ => ?_)
  refine r_aload0 (pc2 := 410) dX12_init_409 rfl ?_
  refine r_getR (pc2 := 413) dX12_init_410 rfl fX12_95 kz ra ?_
  refine r_iload1 (pc2 := 414) dX12_init_413 rfl ?_
  refine r_iconst (pc2 := 415) dX12_init_414 rfl ?_
  refine r_iast (z := -1) (pc2 := 416) dX12_init_415 rfl qa (by decide) 5 rfl (by decide) ?_
  refine r_iinc1 (z := 6) (pc2 := 419) dX12_init_416 rfl rfl rfl ?_
  refine r_goto (tgt := 403) dX12_init_419 (by decide) ?_
  refine r_iload1 (pc2 := 404) dX12_init_403 rfl ?_
  refine r_bipush (pc2 := 406) dX12_init_404 rfl (by decide) (by decide) ?_
  refine r_icge (tgt := 422) (pc2 := 409) dX12_init_406 rfl (by decide) ⟨by omega, by omega⟩ ⟨by omega, by omega⟩ (fun h9 => absurd h9 (by decide)) (fun _ => ?_)
  refine r_aload0 (pc2 := 410) dX12_init_409 rfl ?_
  refine r_getR (pc2 := 413) dX12_init_410 rfl fX12_95 kz ra ?_
  refine r_iload1 (pc2 := 414) dX12_init_413 rfl ?_
  refine r_iconst (pc2 := 415) dX12_init_414 rfl ?_
  refine r_iast (z := -1) (pc2 := 416) dX12_init_415 rfl qa (by decide) 6 rfl (by decide) ?_
  refine r_iinc1 (z := 7) (pc2 := 419) dX12_init_416 rfl rfl rfl ?_
  refine r_goto (tgt := 403) dX12_init_419 (by decide) ?_
  refine r_iload1 (pc2 := 404) dX12_init_403 rfl ?_
  refine r_bipush (pc2 := 406) dX12_init_404 rfl (by decide) (by decide) ?_
  refine r_icge (tgt := 422) (pc2 := 409) dX12_init_406 rfl (by decide) ⟨by omega, by omega⟩ ⟨by omega, by omega⟩ (fun h9 => absurd h9 (by decide)) (fun _ => ?_)
  refine r_aload0 (pc2 := 410) dX12_init_409 rfl ?_
  refine r_getR (pc2 := 413) dX12_init_410 rfl fX12_95 kz ra ?_
  refine r_iload1 (pc2 := 414) dX12_init_413 rfl ?_
  refine r_iconst (pc2 := 415) dX12_init_414 rfl ?_
  refine r_iast (z := -1) (pc2 := 416) dX12_init_415 rfl qa (by decide) 7 rfl (by decide) ?_
  refine r_iinc1 (z := 8) (pc2 := 419) dX12_init_416 rfl rfl rfl ?_
  refine r_goto (tgt := 403) dX12_init_419 (by decide) ?_
  refine r_iload1 (pc2 := 404) dX12_init_403 rfl ?_
  refine r_bipush (pc2 := 406) dX12_init_404 rfl (by decide) (by decide) ?_
  refine r_icge (tgt := 422) (pc2 := 409) dX12_init_406 rfl (by decide) ⟨by omega, by omega⟩ ⟨by omega, by omega⟩ (fun h9 => absurd h9 (by decide)) (fun _ => ?_)
  refine r_aload0 (pc2 := 410) dX12_init_409 rfl ?_
  refine r_getR (pc2 := 413) dX12_init_410 rfl fX12_95 kz ra ?_
  refine r_iload1 (pc2 := 414) dX12_init_413 rfl ?_
  refine r_iconst (pc2 := 415) dX12_init_414 rfl ?_
  refine r_iast (z := -1) (pc2 := 416) dX12_init_415 rfl qa (by decide) 8 rfl (by decide) ?_
  refine r_iinc1 (z := 9) (pc2 := 419) dX12_init_416 rfl rfl rfl ?_
  refine r_goto (tgt := 403) dX12_init_419 (by decide) ?_
  refine r_iload1 (pc2 := 404) dX12_init_403 rfl ?_
  refine r_bipush (pc2 := 406) dX12_init_404 rfl (by decide) (by decide) ?_
  refine r_icge (tgt := 422) (pc2 := 409) dX12_init_406 rfl (by decide) ⟨by omega, by omega⟩ ⟨by omega, by omega⟩ (fun h9 => absurd h9 (by decide)) (fun _ => ?_)
  refine r_aload0 (pc2 := 410) dX12_init_409 rfl ?_
  refine r_getR (pc2 := 413) dX12_init_410 rfl fX12_95 kz ra ?_
  refine r_iload1 (pc2 := 414) dX12_init_413 rfl ?_
  refine r_iconst (pc2 := 415) dX12_init_414 rfl ?_
  refine r_iast (z := -1) (pc2 := 416) dX12_init_415 rfl qa (by decide) 9 rfl (by decide) ?_
  refine r_iinc1 (z := 10) (pc2 := 419) dX12_init_416 rfl rfl rfl ?_
  refine r_goto (tgt := 403) dX12_init_419 (by decide) ?_
  refine r_iload1 (pc2 := 404) dX12_init_403 rfl ?_
  refine r_bipush (pc2 := 406) dX12_init_404 rfl (by decide) (by decide) ?_
  refine r_icge (tgt := 422) (pc2 := 409) dX12_init_406 rfl (by decide) ⟨by omega, by omega⟩ ⟨by omega, by omega⟩ (fun h9 => absurd h9 (by decide)) (fun _ => ?_)
  refine r_aload0 (pc2 := 410) dX12_init_409 rfl ?_
  refine r_getR (pc2 := 413) dX12_init_410 rfl fX12_95 kz ra ?_
  refine r_iload1 (pc2 := 414) dX12_init_413 rfl ?_
  refine r_iconst (pc2 := 415) dX12_init_414 rfl ?_
  refine r_iast (z := -1) (pc2 := 416) dX12_init_415 rfl qa (by decide) 10 rfl (by decide) ?_
  refine r_iinc1 (z := 11) (pc2 := 419) dX12_init_416 rfl rfl rfl ?_
  refine r_goto (tgt := 403) dX12_init_419 (by decide) ?_
  refine r_iload1 (pc2 := 404) dX12_init_403 rfl ?_
  refine r_bipush (pc2 := 406) dX12_init_404 rfl (by decide) (by decide) ?_
  refine r_icge (tgt := 422) (pc2 := 409) dX12_init_406 rfl (by decide) ⟨by omega, by omega⟩ ⟨by omega, by omega⟩ (fun h9 => absurd h9 (by decide)) (fun _ => ?_)
  refine r_aload0 (pc2 := 410) dX12_init_409 rfl ?_
  refine r_getR (pc2 := 413) dX12_init_410 rfl fX12_95 kz ra ?_
  refine r_iload1 (pc2 := 414) dX12_init_413 rfl ?_
  refine r_iconst (pc2 := 415) dX12_init_414 rfl ?_
  refine r_iast (z := -1) (pc2 := 416) dX12_init_415 rfl qa (by decide) 11 rfl (by decide) ?_
  refine r_iinc1 (z := 12) (pc2 := 419) dX12_init_416 rfl rfl rfl ?_
  refine r_goto (tgt := 403) dX12_init_419 (by decide) ?_
  refine r_iload1 (pc2 := 404) dX12_init_403 rfl ?_
  refine r_bipush (pc2 := 406) dX12_init_404 rfl (by decide) (by decide) ?_
  refine r_icge (tgt := 422) (pc2 := 409) dX12_init_406 rfl (by decide) ⟨by omega, by omega⟩ ⟨by omega, by omega⟩ (fun h9 => absurd h9 (by decide)) (fun _ => ?_)
  refine r_aload0 (pc2 := 410) dX12_init_409 rfl ?_
  refine r_getR (pc2 := 413) dX12_init_410 rfl fX12_95 kz ra ?_
  refine r_iload1 (pc2 := 414) dX12_init_413 rfl ?_
  refine r_iconst (pc2 := 415) dX12_init_414 rfl ?_
  refine r_iast (z := -1) (pc2 := 416) dX12_init_415 rfl qa (by decide) 12 rfl (by decide) ?_
  refine r_iinc1 (z := 13) (pc2 := 419) dX12_init_416 rfl rfl rfl ?_
  refine r_goto (tgt := 403) dX12_init_419 (by decide) ?_
  refine r_iload1 (pc2 := 404) dX12_init_403 rfl ?_
  refine r_bipush (pc2 := 406) dX12_init_404 rfl (by decide) (by decide) ?_
  refine r_icge (tgt := 422) (pc2 := 409) dX12_init_406 rfl (by decide) ⟨by omega, by omega⟩ ⟨by omega, by omega⟩ (fun _ => ?_) (fun h9 => absurd h9 (by decide))
  refine r_iconst (pc2 := 423) dX12_init_422 rfl ?_
  refine r_istore1 (pc2 := 424) dX12_init_423 rfl rfl ?_
  refine r_iload1 (pc2 := 425) dX12_init_424 rfl ?_
  refine r_iconst (pc2 := 426) dX12_init_425 rfl ?_
  refine r_icge (tgt := 453) (pc2 := 429) dX12_init_426 rfl (by decide) ⟨by omega, by omega⟩ ⟨by omega, by omega⟩ (fun h9 => absurd h9 (by decide)) (fun _ => ?_)
  refine r_aload0 (pc2 := 430) dX12_init_429 rfl ?_
  refine r_getR (pc2 := 433) dX12_init_430 rfl fX12_98 kz rb ?_
  refine r_iload1 (pc2 := 434) dX12_init_433 rfl ?_
  refine r_iconst (pc2 := 435) dX12_init_434 rfl ?_
  refine r_iload1 (pc2 := 436) dX12_init_435 rfl ?_
  refine r_imul (c := 0) (pc2 := 437) dX12_init_436 rfl rfl ?_
  refine r_iconst (pc2 := 438) dX12_init_437 rfl ?_
  refine r_iadd (c := 1) (pc2 := 439) dX12_init_438 rfl rfl ?_
  refine r_iast (z := 1) (pc2 := 440) dX12_init_439 rfl qb (by decide) 0 rfl (by decide) ?_
  refine r_aload0 (pc2 := 441) dX12_init_440 rfl ?_
  refine r_getR (pc2 := 444) dX12_init_441 rfl fX12_101 kz rc ?_
  refine r_iload1 (pc2 := 445) dX12_init_444 rfl ?_
  refine r_iload1 (pc2 := 446) dX12_init_445 rfl ?_
  refine r_iast (z := 0) (pc2 := 447) dX12_init_446 rfl qc (by decide) 0 rfl (by decide) ?_
  refine r_iinc1 (z := 1) (pc2 := 450) dX12_init_447 rfl rfl rfl ?_
  refine r_goto (tgt := 424) dX12_init_450 (by decide) ?_
  refine r_iload1 (pc2 := 425) dX12_init_424 rfl ?_
  refine r_iconst (pc2 := 426) dX12_init_425 rfl ?_
  refine r_icge (tgt := 453) (pc2 := 429) dX12_init_426 rfl (by decide) ⟨by omega, by omega⟩ ⟨by omega, by omega⟩ (fun h9 => absurd h9 (by decide)) (fun _ => ?_)
  refine r_aload0 (pc2 := 430) dX12_init_429 rfl ?_
  refine r_getR (pc2 := 433) dX12_init_430 rfl fX12_98 kz rb ?_
  refine r_iload1 (pc2 := 434) dX12_init_433 rfl ?_
  refine r_iconst (pc2 := 435) dX12_init_434 rfl ?_
  refine r_iload1 (pc2 := 436) dX12_init_435 rfl ?_
  refine r_imul (c := 3) (pc2 := 437) dX12_init_436 rfl rfl ?_
  refine r_iconst (pc2 := 438) dX12_init_437 rfl ?_
  refine r_iadd (c := 4) (pc2 := 439) dX12_init_438 rfl rfl ?_
  refine r_iast (z := 4) (pc2 := 440) dX12_init_439 rfl qb (by decide) 1 rfl (by decide) ?_
  refine r_aload0 (pc2 := 441) dX12_init_440 rfl ?_
  refine r_getR (pc2 := 444) dX12_init_441 rfl fX12_101 kz rc ?_
  refine r_iload1 (pc2 := 445) dX12_init_444 rfl ?_
  refine r_iload1 (pc2 := 446) dX12_init_445 rfl ?_
  refine r_iast (z := 1) (pc2 := 447) dX12_init_446 rfl qc (by decide) 1 rfl (by decide) ?_
  refine r_iinc1 (z := 2) (pc2 := 450) dX12_init_447 rfl rfl rfl ?_
  refine r_goto (tgt := 424) dX12_init_450 (by decide) ?_
  refine r_iload1 (pc2 := 425) dX12_init_424 rfl ?_
  refine r_iconst (pc2 := 426) dX12_init_425 rfl ?_
  refine r_icge (tgt := 453) (pc2 := 429) dX12_init_426 rfl (by decide) ⟨by omega, by omega⟩ ⟨by omega, by omega⟩ (fun h9 => absurd h9 (by decide)) (fun _ => ?_)
  refine r_aload0 (pc2 := 430) dX12_init_429 rfl ?_
  refine r_getR (pc2 := 433) dX12_init_430 rfl fX12_98 kz rb ?_
  refine r_iload1 (pc2 := 434) dX12_init_433 rfl ?_
  refine r_iconst (pc2 := 435) dX12_init_434 rfl ?_
  refine r_iload1 (pc2 := 436) dX12_init_435 rfl ?_
  refine r_imul (c := 6) (pc2 := 437) dX12_init_436 rfl rfl ?_
  refine r_iconst (pc2 := 438) dX12_init_437 rfl ?_
  refine r_iadd (c := 7) (pc2 := 439) dX12_init_438 rfl rfl ?_
  refine r_iast (z := 7) (pc2 := 440) dX12_init_439 rfl qb (by decide) 2 rfl (by decide) ?_
  refine r_aload0 (pc2 := 441) dX12_init_440 rfl ?_
  refine r_getR (pc2 := 444) dX12_init_441 rfl fX12_101 kz rc ?_
  refine r_iload1 (pc2 := 445) dX12_init_444 rfl ?_
  refine r_iload1 (pc2 := 446) dX12_init_445 rfl ?_
  refine r_iast (z := 2) (pc2 := 447) dX12_init_446 rfl qc (by decide) 2 rfl (by decide) ?_
  refine r_iinc1 (z := 3) (pc2 := 450) dX12_init_447 rfl rfl rfl ?_
  refine r_goto (tgt := 424) dX12_init_450 (by decide) ?_
  refine r_iload1 (pc2 := 425) dX12_init_424 rfl ?_
  refine r_iconst (pc2 := 426) dX12_init_425 rfl ?_
  refine r_icge (tgt := 453) (pc2 := 429) dX12_init_426 rfl (by decide) ⟨by omega, by omega⟩ ⟨by omega, by omega⟩ (fun h9 => absurd h9 (by decide)) (fun _ => ?_)
  refine r_aload0 (pc2 := 430) dX12_init_429 rfl ?_
  refine r_getR (pc2 := 433) dX12_init_430 rfl fX12_98 kz rb ?_
  refine r_iload1 (pc2 := 434) dX12_init_433 rfl ?_
  refine r_iconst (pc2 := 435) dX12_init_434 rfl ?_
  refine r_iload1 (pc2 := 436) dX12_init_435 rfl ?_
  refine r_imul (c := 9) (pc2 := 437) dX12_init_436 rfl rfl ?_
  refine r_iconst (pc2 := 438) dX12_init_437 rfl ?_
  refine r_iadd (c := 10) (pc2 := 439) dX12_init_438 rfl rfl ?_
  refine r_iast (z := 10) (pc2 := 440) dX12_init_439 rfl qb (by decide) 3 rfl (by decide) ?_
  refine r_aload0 (pc2 := 441) dX12_init_440 rfl ?_
  refine r_getR (pc2 := 444) dX12_init_441 rfl fX12_101 kz rc ?_
  refine r_iload1 (pc2 := 445) dX12_init_444 rfl ?_
  refine r_iload1 (pc2 := 446) dX12_init_445 rfl ?_
  refine r_iast (z := 3) (pc2 := 447) dX12_init_446 rfl qc (by decide) 3 rfl (by decide) ?_
  refine r_iinc1 (z := 4) (pc2 := 450) dX12_init_447 rfl rfl rfl ?_
  refine r_goto (tgt := 424) dX12_init_450 (by decide) ?_
  refine r_iload1 (pc2 := 425) dX12_init_424 rfl ?_
  refine r_iconst (pc2 := 426) dX12_init_425 rfl ?_
  refine r_icge (tgt := 453) (pc2 := 429) dX12_init_426 rfl (by decide) ⟨by omega, by omega⟩ ⟨by omega, by omega⟩ (fun _ => ?_) (fun h9 => absurd h9 (by decide))
  refine r_ret dX12_init_453 rfl ?_
  have gz := (((((((((((((((((((((g33.I (c := 331) (k := 0) (z := -1) (by decide)).I (c := 331) (k := 1) (z := -1) (by decide)).I (c := 331) (k := 2) (z := -1) (by decide)).I (c := 331) (k := 3) (z := -1) (by decide)).I (c := 331) (k := 4) (z := -1) (by decide)).I (c := 331) (k := 5) (z := -1) (by decide)).I (c := 331) (k := 6) (z := -1) (by decide)).I (c := 331) (k := 7) (z := -1) (by decide)).I (c := 331) (k := 8) (z := -1) (by decide)).I (c := 331) (k := 9) (z := -1) (by decide)).I (c := 331) (k := 10) (z := -1) (by decide)).I (c := 331) (k := 11) (z := -1) (by decide)).I (c := 331) (k := 12) (z := -1) (by decide)).I (c := 332) (k := 0) (z := 1) (by decide)).I (c := 333) (k := 0) (z := 0) (by decide)).I (c := 332) (k := 1) (z := 4) (by decide)).I (c := 333) (k := 1) (z := 1) (by decide)).I (c := 332) (k := 2) (z := 7) (by decide)).I (c := 333) (k := 2) (z := 2) (by decide)).I (c := 332) (k := 3) (z := 10) (by decide)).I (c := 333) (k := 3) (z := 3) (by decide))
  refine ⟨rfl, gz.eq (fun j => ?_) (fun c q1 q2 j => ?_), fun k hk => (x5 k).trans (w5 k hk)⟩
  · match j with
    | 0 => rfl
    | 1 => rfl
    | 2 => rfl
    | 3 => rfl
    | 4 => rfl
    | 5 => rfl
    | 6 => rfl
    | 7 => rfl
    | 8 => rfl
    | 9 => rfl
    | 10 => rfl
    | 11 => rfl
    | 12 => rfl
    | 13 => rfl
    | 14 => rfl
    | 15 => rfl
    | 16 => rfl
    | 17 => rfl
    | 18 => rfl
    | 19 => rfl
    | 20 => rfl
    | 21 => rfl
    | 22 => rfl
    | 23 => rfl
    | 24 => rfl
    | 25 => rfl
    | 26 => rfl
    | 27 => rfl
    | 28 => rfl
    | 29 => rfl
    | 30 => rfl
    | 31 => rfl
    | 32 => rfl
    | 33 => rfl
    | 34 => rfl
    | 35 => rfl
    | 36 => rfl
    | 37 => rfl
    | 38 => rfl
    | 39 => rfl
    | 40 => rfl
    | 41 => rfl
    | 42 => rfl
    | 43 => rfl
    | 44 => rfl
    | 45 => rfl
    | 46 => rfl
    | 47 => rfl
    | 48 => rfl
    | 49 => rfl
    | 50 => rfl
    | 51 => rfl
    | 52 => rfl
    | 53 => rfl
    | j + 54 => dsimp only; rw [up_ne (by omega), up_ne (by omega), up_ne (by omega), up_ne (by omega), up_ne (by omega), up_ne (by omega), up_ne (by omega), up_ne (by omega), up_ne (by omega), up_ne (by omega), up_ne (by omega), up_ne (by omega), up_ne (by omega), up_ne (by omega), up_ne (by omega), up_ne (by omega), up_ne (by omega), up_ne (by omega), up_ne (by omega), up_ne (by omega), up_ne (by omega), up_ne (by omega), up_ne (by omega), up_ne (by omega), up_ne (by omega), up_ne (by omega), up_ne (by omega), up_ne (by omega), up_ne (by omega), up_ne (by omega), up_ne (by omega), up_ne (by omega), up_ne (by omega)]; rfl
  · by_cases u1 : c = 331
    · rw [u1, pU_ne (by decide), pU_ne (by decide), pU_ne (by decide), pU_ne (by decide), pU_ne (by decide), pU_ne (by decide), pU_ne (by decide), pU_ne (by decide), pU_at, pU_at, pU_at, pU_at, pU_at, pU_at, pU_at, pU_at, pU_at, pU_at, pU_at, pU_at, pU_at]
      match j with
      | 0 => rfl
      | 1 => rfl
      | 2 => rfl
      | 3 => rfl
      | 4 => rfl
      | 5 => rfl
      | 6 => rfl
      | 7 => rfl
      | 8 => rfl
      | 9 => rfl
      | 10 => rfl
      | 11 => rfl
      | 12 => rfl
      | j + 13 => rw [up_ne (by omega), up_ne (by omega), up_ne (by omega), up_ne (by omega), up_ne (by omega), up_ne (by omega), up_ne (by omega), up_ne (by omega), up_ne (by omega), up_ne (by omega), up_ne (by omega), up_ne (by omega), up_ne (by omega)]; unfold z0; rw [show bO 331 = 10 by decide]; simp
    by_cases u2 : c = 332
    · rw [u2, pU_ne (by decide), pU_at, pU_ne (by decide), pU_at, pU_ne (by decide), pU_at, pU_ne (by decide), pU_at, pU_ne (by decide), pU_ne (by decide), pU_ne (by decide), pU_ne (by decide), pU_ne (by decide), pU_ne (by decide), pU_ne (by decide), pU_ne (by decide), pU_ne (by decide), pU_ne (by decide), pU_ne (by decide), pU_ne (by decide), pU_ne (by decide)]
      match j with
      | 0 => rfl
      | 1 => rfl
      | 2 => rfl
      | 3 => rfl
      | j + 4 => rw [up_ne (by omega), up_ne (by omega), up_ne (by omega), up_ne (by omega)]; unfold z0; rw [show bO 332 = 10 by decide]; simp; omega
    by_cases u3 : c = 333
    · rw [u3, pU_at, pU_ne (by decide), pU_at, pU_ne (by decide), pU_at, pU_ne (by decide), pU_at, pU_ne (by decide), pU_ne (by decide), pU_ne (by decide), pU_ne (by decide), pU_ne (by decide), pU_ne (by decide), pU_ne (by decide), pU_ne (by decide), pU_ne (by decide), pU_ne (by decide), pU_ne (by decide), pU_ne (by decide), pU_ne (by decide), pU_ne (by decide)]
      match j with
      | 0 => rfl
      | 1 => rfl
      | 2 => rfl
      | 3 => rfl
      | j + 4 => rw [up_ne (by omega), up_ne (by omega), up_ne (by omega), up_ne (by omega)]; unfold z0; rw [show bO 333 = 10 by decide]; simp; omega
    rw [pU_ne u3, pU_ne u2, pU_ne u3, pU_ne u2, pU_ne u3, pU_ne u2, pU_ne u3, pU_ne u2, pU_ne u1, pU_ne u1, pU_ne u1, pU_ne u1, pU_ne u1, pU_ne u1, pU_ne u1, pU_ne u1, pU_ne u1, pU_ne u1, pU_ne u1, pU_ne u1, pU_ne u1]
    refine (z0_0 ?_).symm
    refine decide_eq_true ?_
    unfold bO
    rw [if_neg (by omega), if_neg (by omega), if_neg (by omega)]
    omega
