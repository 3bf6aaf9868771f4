/-! the MarbleWorks is made -/
def LI (M0 M : pM) (n f : Nat) : Prop := M.1.1 = n ∧ 3 ≤ n ∧ M.1.2.1 2 = (1, 11) ∧ DN M 3 252 n ∧ (∀ j, M.1.2.2 2 j = if j < f then r0 2 j else none) ∧ M.2.1 2 = (fun _ => 0) ∧ M.2.2 2 = (fun _ => 0) ∧ SB M0 M 2 ∧ (4 < n → cWd M) ∧ (252 < n → ∀ j, M.1.2.2 252 j = none)
theorem pR_2 {M : pM} {f n : Nat} (h : ∀ j, M.1.2.2 2 j = if j < f then r0 2 j else none) (hr : r0 2 f = some n) : ∀ j, (pR M 2 f (some n)).1.2.2 2 j = if j < f + 1 then r0 2 j else none := fun j => by
  show pU M.1.2.2 2 f (some n) 2 j = _
  rw [pU_at]
  by_cases u : j = f
  · rw [u, up_at, if_pos (by omega), hr]
  · rw [up_ne u, h j]
    by_cases u2 : j < f
    · rw [if_pos u2, if_pos (by omega)]
    · rw [if_neg u2, if_neg (by omega)]
theorem LI.ob {M0 M M2 : pM} {n n2 f ci : Nat} (h : LI M0 M n f) (g : GW (pNew M 1 ci) M2 n n2) (hk : k0 n = (1, ci)) (hr : r0 2 f = some n) (hw : 4 < n ∨ cWd M2) (hx : 252 < n ∨ n2 ≤ 252) : LI M0 (pR M2 2 f (some n)) n2 (f + 1) := by
  obtain ⟨h1, h2, h3, h4, h5, h6, h7, h8, h9, h10⟩ := h
  subst h1
  obtain ⟨q1, q2, q3, q4, q5⟩ := h4.ext g hk
  have s2 := q3 2 (by omega)
  refine ⟨q2, by omega, ?_, q1.Ro (by decide), pR_2 (fun j => by rw [s2.2.1]; exact h5 j) hr, ?_, ?_, ?_, fun _ => ?_, fun q j => ?_⟩
  · show M2.1.2.1 2 = _
    rw [s2.1]; exact h3
  · show M2.2.1 2 = _
    rw [s2.2.2.1]; exact h6
  · show M2.2.2 2 = _
    rw [s2.2.2.2]; exact h7
  · exact (h8.tr (q3.mono (by omega))).R (by decide)
  · rcases hw with hw | hw
    · exact (h9 hw).of (q3 4 hw).2.2.2
    · exact hw
  · show pU M2.1.2.2 2 f (some M.1.1) 252 j = _
    rw [pU_ne (by decide)]
    rcases hx with hx | hx
    · rw [(q3 252 hx).2.1]; exact h10 hx j
    · omega
theorem LI.ar {M0 M M2 : pM} {n f t m : Nat} (h : LI M0 M n f) (e : M2 = ndS 2 M (t, m, f)) (hk : k0 n = (t, m)) (hr : r0 2 f = some n) (hz : z0n n = true) (hw : 4 < n) (hx : n = 252 ∨ n ∉ rZ) : LI M0 M2 (n + 1) (f + 1) := by
  obtain ⟨h1, h2, h3, h4, h5, h6, h7, h8, h9, h10⟩ := h
  subst h1
  subst e
  have ha : (2 : Nat) ≠ M.1.1 := by omega
  refine ⟨ndS_n, by omega, ?_, fun c q1 q2 => ?_, fun j => ?_, ?_, ?_, fun c hc => ⟨?_, ?_, ?_⟩, fun _ => ?_, fun q j => ?_⟩
  · rw [ndS_k ha]; exact h3
  · by_cases u : c = M.1.1
    · subst u
      exact ⟨by rw [ndS_ka, hk], fun q j => by rw [ndS_ra ha, r0_none (hx.resolve_left q)], fun j => by rw [ndS_ia.1, z0_0 hz], fun _ _ _ _ j => by rw [ndS_ia.2]⟩
    · rw [ndS_k u, ndS_r u (by omega), (ndS_i u).1, (ndS_i u).2]
      exact h4 c q1 (by omega)
  · rw [ndS_rr ha]
    show va_up (M.1.2.2 2) f (some M.1.1) j = _
    by_cases u : j = f
    · rw [u, up_at, if_pos (by omega), hr]
    · rw [up_ne u, h5 j]
      by_cases u2 : j < f
      · rw [if_pos u2, if_pos (by omega)]
      · rw [if_neg u2, if_neg (by omega)]
  · rw [(ndS_i ha).1]; exact h6
  · rw [(ndS_i ha).2]; exact h7
  · rw [ndS_k (by omega)]; exact (h8 c hc).1
  · rw [ndS_r (by omega) (by omega)]; exact (h8 c hc).2.1
  · rw [(ndS_i (by omega)).1, (ndS_i (by omega)).2]; exact (h8 c hc).2.2
  · exact (h9 hw).of (ndS_i (by omega)).2
  · by_cases u : (252 : Nat) = M.1.1
    · rw [u, ndS_ra ha]
    · rw [ndS_r u (by decide)]; exact h10 (by omega) j
theorem r_nwm {C : pCt} {Q : pQ} {y : MethodName} {cc : ByteArray} {rt : Option FieldType} {kc ks pc pc1 pc2 : Nat} {ls : pL} {st : List Value} {M : pM} {idx idx2 ci N kc2 ks2 pc3 n : Nat} {z : MethodName} {Q2 : pQ} (hn : M.1.1 = n) (h : decode cc pc = .ok (.new idx, 3)) (hp : pc + 3 = pc1) (hc : pCls y.cls idx ci N) (h2 : decode cc pc1 = .ok (.dup, 1)) (hp2 : pc1 + 1 = pc2) (h3 : decode cc pc2 = .ok (.invokespecial idx2, 3)) (hp3 : pc2 + 3 = pc3) (hs : pSp y.cls idx2 0 z) (hst : pCat st ≤ 7) (hC : C kc2 ks2 z [.ref n] (pNew M 1 ci) Q2)
    (g : ∀ (r : Option Value) (M2 : pM), Q2 r M2 → Go C Q y cc rt kc ks pc3 ls (r.toList ++ .ref n :: st) M2) : Go C Q y cc rt (kc + kc2 + 1) (ks + ks2 + N) pc ls st M := by
  subst hn
  exact r_nw0 h hp hc h2 hp2 h3 hp3 hs hst hC g
/-- all is made -/
def CO (M0 M : pM) : Prop := M.1.1 = 317 ∧ DN M 2 1000 317 ∧ SB M0 M 2 ∧ cWd M
def LJ (M0 M : pM) (i : Nat) : Prop := M.1.1 = 277 + 10 * i ∧ M.1.2.1 2 = (1, 11) ∧ DN M 3 252 (277 + 10 * i) ∧ (∀ j, M.1.2.2 2 j = r0 2 j) ∧ M.2.1 2 = (fun _ => 0) ∧ M.2.2 2 = (fun _ => 0) ∧ SB M0 M 2 ∧ cWd M ∧ ∀ j, M.1.2.2 252 j = if j < i then some (277 + 10 * j) else none
set_option maxHeartbeats 4000000 in
theorem lp_X11_init {C : pCt} {Q : pQ} (M0 : pM) (hC : ∀ kc ks z as M Q, Ct 10 kc ks z as M Q → C kc ks z as M Q) (hQ : ∀ M2, CO M0 M2 → Q none M2) : ∀ (m i : Nat) (M : pM), i + m = 4 → LJ M0 M i → Go C Q yX11_init cX11_init none (10 * m) (818 * m) 154 [some (.ref 2), some (.int (iI ((i : Nat) : Int)))] [] M := by
  intro m
  induction m with
  | zero =>
    intro i M hm h
    obtain rfl : i = 4 := by omega
    refine r_iload1 (pc2 := 155) dX11_init_154 rfl ?_
    refine r_iconst (pc2 := 156) dX11_init_155 rfl ?_
    refine r_icge (tgt := 178) (pc2 := 159) dX11_init_156 rfl (by decide) ⟨by omega, by omega⟩ ⟨by omega, by omega⟩ (fun _ => ?_) (fun b => absurd b (by omega))
    refine r_ret dX11_init_178 rfl ?_
    obtain ⟨h1, h2, h3, h4, h5, h6, h7, h8, h9⟩ := h
    refine hQ M ⟨h1, fun c q1 q2 => ?_, h7, h8⟩
    by_cases u : c = 2
    · subst u
      exact ⟨h2.trans (by decide), fun _ => h4, fun j => by rw [h5, z0_0 (by decide)], fun _ _ _ _ j => by rw [h6]⟩
    · obtain ⟨z1, z2, z3, z4⟩ := h3 c (by omega) q2
      refine ⟨z1, fun _ j => ?_, z3, z4⟩
      by_cases u2 : c = 252
      · rw [u2, h9 j, r0_252]
      · exact z2 u2 j
  | succ m ih =>
    intro i M hm h
    obtain ⟨hn, h2, hD, hr, h5, h6, h7, h8, h9⟩ := h
    have hi : i < 4 := by omega
    have hD252 := hD 252 (by omega) (by omega)
    refine r_iload1 (pc2 := 155) dX11_init_154 rfl ?_
    refine r_iconst (pc2 := 156) dX11_init_155 rfl ?_
    refine r_icge (tgt := 178) (pc2 := 159) dX11_init_156 rfl (by decide) ⟨by omega, by omega⟩ ⟨by omega, by omega⟩ (fun b => absurd b (by omega)) (fun _ => ?_)
    refine r_aload0 (pc2 := 160) dX11_init_159 rfl ?_
    refine r_getR (pc2 := 163) dX11_init_160 rfl fX11_48 h2 (hr 5) ?_
    refine r_iload1 (pc2 := 164) dX11_init_163 rfl ?_
    rw [show 10 * (m + 1) = 10 * m + 9 + 1 by omega, show 818 * (m + 1) = 818 * m + 805 + 13 by omega]
    have hb : isB M.1.1 := by rw [hn]; exact isB_shelf hi
    refine r_nw0 (pc1 := 167) (pc2 := 168) (pc3 := 171) dX11_init_164 rfl nX11_25 dX11_init_167 rfl dX11_init_168 rfl iX11_27 (Nat.le_of_ble_eq_true rfl) (hC _ _ _ _ _ _ (c_X0_init (d := 8) hb FR.new)) ?_
    rintro _ M2 ⟨rfl, g⟩
    obtain ⟨q1, q2, q3, q4, q5⟩ := (show DN M 3 252 M.1.1 by rw [hn]; exact hD).ext g (k0_bb hb)
    refine r_aast (pc2 := 172) dX11_init_171 rfl (by rw [(q3 252 (by omega)).1]; exact hD252.1) (by decide) q4 i rfl (by omega) ?_
    refine r_iinc1 (z := ((i + 1 : Nat) : Int)) (pc2 := 175) dX11_init_172 rfl (by omega) rfl ?_
    refine r_goto (tgt := 154) dX11_init_175 (by decide) ?_
    have s2 := q3 2 (by omega)
    refine ih (i + 1) _ (by omega) ⟨?_, ?_, ?_, fun j => ?_, ?_, ?_, ?_, ?_, fun j => ?_⟩
    · show M2.1.1 = _
      rw [q2, hn]; omega
    · show M2.1.2.1 2 = _
      rw [s2.1]; exact h2
    · have h9 := q1.Re (k := i) (b := some M.1.1)
      rw [hn] at h9 ⊢
      exact h9
    · show pU M2.1.2.2 252 i (some M.1.1) 2 j = _
      rw [pU_ne (by decide), s2.2.1]; exact hr j
    · show M2.2.1 2 = _
      rw [s2.2.2.1]; exact h5
    · show M2.2.2 2 = _
      rw [s2.2.2.2]; exact h6
    · exact (h7.tr (q3.mono (by omega))).R (by omega)
    · exact h8.of (q3 4 (by omega)).2.2.2
    · show pU M2.1.2.2 252 i (some M.1.1) 252 j = _
      rw [pU_at, (q3 252 (by omega)).2.1]
      by_cases u : j = i
      · rw [u, up_at, if_pos (by omega), hn]
      · rw [up_ne u, h9 j]
        by_cases u2 : j < i
        · rw [if_pos u2, if_pos (by omega)]
        · rw [if_neg u2, if_neg (by omega)]
set_option maxHeartbeats 4000000 in
theorem go_X11_init {C : pCt} {Q : pQ} {M : pM} (hC : ∀ kc ks z as M Q, Ct 10 kc ks z as M Q → C kc ks z as M Q) (h8 : ∀ M : pM, FR M 3 8 → C 5 4021 yX8_init [.ref 3] M (fun v M2 => v = none ∧ GW M M2 3 9 ∧ cWd M2)) (hf : FR M 2 11) (hQ : ∀ M2, CO M M2 → Q none M2) : Go C Q yX11_init cX11_init none 314 62274 0 [some (.ref 2), none] [] M := by
  have i0 : LI M M 3 0 := ⟨hf.1, Nat.le_refl 3, hf.2.1, fun c h1 h2 => absurd h2 (by omega), fun j => by rw [hf.2.2.1, if_neg (by omega)], hf.2.2.2.1, hf.2.2.2.2, SB.rf, fun h => absurd h (by omega), fun h => absurd h (by omega)⟩
  refine r_aload0 (pc2 := 1) dX11_init_0 rfl ?_
  refine go_oini dX11_init_1 oX11_1 (by decide) ?_
  refine r_aload0 (pc2 := 5) dX11_init_4 rfl ?_
  have a0 : M.1.1 = 3 := i0.1
  refine r_nwm (N := 7) (kc := 308) (ks := 58246) (kc2 := 5) (ks2 := 4021) (pc1 := 8) (pc2 := 9) (pc3 := 12) a0 dX11_init_5 rfl nX11_7 dX11_init_8 rfl dX11_init_9 rfl iX11_9 (by decide) (h8 _ (show FR (pNew M 1 8) 3 8 by rw [← a0]; exact FR.new)) ?_
  rintro _ N1 ⟨rfl, g1, c8⟩
  have j1 : N1.1.2.1 2 = (1, 11) := (g1.2.1 2 (by decide)).trans ((show (pNew M 1 8).1.2.1 2 = M.1.2.1 2 from up_ne (by omega)).trans i0.2.2.1)
  refine r_putR (b := 3) (pc2 := 15) dX11_init_12 rfl fX11_10 (wf11_0 rfl rfl) j1 (by decide) ?_
  obtain ⟨M1, e1⟩ : ∃ M1, M1 = pR N1 2 0 (some 3) := ⟨_, rfl⟩
  have i1 := i0.ob g1 (by decide +kernel) rfl (Or.inr c8) (Or.inr (by decide))
  rw [← e1] at i1
  show Go C Q yX11_init cX11_init none 308 58246 15 [some (.ref 2), none] [] (pR N1 2 0 (some 3))
  rw [← e1]
  refine r_aload0 (pc2 := 16) dX11_init_15 rfl ?_
  have a1 : M1.1.1 = 9 := i1.1
  refine r_nwn (N := 15) (kc := 307) (ks := 58231) (pc1 := 19) (pc2 := 20) dX11_init_16 rfl nX11_16 dX11_init_19 rfl ?_
  rw [a1]
  refine r_aload0 (pc2 := 21) dX11_init_20 rfl ?_
  refine r_getR (b := 3) (pc2 := 24) dX11_init_21 rfl fX11_10 (by rw [show (pNew M1 1 4).1.2.1 2 = M1.1.2.1 2 from up_ne (by omega)]; exact i1.2.2.1) (by rw [show (pNew M1 1 4).1.2.2 2 = M1.1.2.2 2 from pZ_ne (by omega)]; exact i1.2.2.2.2.1 0) ?_
  refine go_invI (kc := 298) (ks := 57416) (kc2 := 9) (ks2 := 815) (as := [.ref 3]) dX11_init_24 iX11_18 rfl (by decide) (hC _ _ _ _ _ _ (c_X4_init (d := 9) (show FR (pNew M1 1 4) 9 4 by rw [← a1]; exact FR.new))) ?_
  rintro _ N2 ⟨rfl, g2⟩
  have j2 : N2.1.2.1 2 = (1, 11) := (g2.2.1 2 (by decide)).trans ((show (pNew M1 1 4).1.2.1 2 = M1.1.2.1 2 from up_ne (by omega)).trans i1.2.2.1)
  refine r_putR (b := 9) (pc2 := 30) dX11_init_27 rfl fX11_21 (wf11_1 rfl rfl) j2 (by decide) ?_
  obtain ⟨M2, e2⟩ : ∃ M2, M2 = pR N2 2 1 (some 9) := ⟨_, rfl⟩
  have i2 := i1.ob g2 (by decide +kernel) rfl (Or.inl (by decide)) (Or.inr (by decide))
  rw [← e2] at i2
  show Go C Q yX11_init cX11_init none 298 57416 30 [some (.ref 2), none] [] (pR N2 2 1 (some 9))
  rw [← e2]
  refine r_aload0 (pc2 := 31) dX11_init_30 rfl ?_
  have a2 : M2.1.1 = 19 := i2.1
  refine r_nwm (N := 13) (kc := 288) (ks := 56598) (kc2 := 9) (ks2 := 805) (pc1 := 34) (pc2 := 35) (pc3 := 38) a2 dX11_init_31 rfl nX11_25 dX11_init_34 rfl dX11_init_35 rfl iX11_27 (by decide) (hC _ _ _ _ _ _ (c_X0_init (d := 8) isB_19 (show FR (pNew M2 1 0) 19 0 by rw [← a2]; exact FR.new))) ?_
  rintro _ N3 ⟨rfl, g3⟩
  have j3 : N3.1.2.1 2 = (1, 11) := (g3.2.1 2 (by decide)).trans ((show (pNew M2 1 0).1.2.1 2 = M2.1.2.1 2 from up_ne (by omega)).trans i2.2.2.1)
  refine r_putR (b := 19) (pc2 := 41) dX11_init_38 rfl fX11_28 (wf11_2 rfl rfl) j3 (by decide) ?_
  obtain ⟨M3, e3⟩ : ∃ M3, M3 = pR N3 2 2 (some 19) := ⟨_, rfl⟩
  have i3 := i2.ob g3 (by decide +kernel) rfl (Or.inl (by decide)) (Or.inr (by decide))
  rw [← e3] at i3
  show Go C Q yX11_init cX11_init none 288 56598 41 [some (.ref 2), none] [] (pR N3 2 2 (some 19))
  rw [← e3]
  refine r_aload0 (pc2 := 42) dX11_init_41 rfl ?_
  have a3 : M3.1.1 = 29 := i3.1
  refine r_nwn (N := 16) (kc := 287) (ks := 56582) (pc1 := 45) (pc2 := 46) dX11_init_42 rfl nX11_32 dX11_init_45 rfl ?_
  rw [a3]
  refine r_aload0 (pc2 := 47) dX11_init_46 rfl ?_
  refine r_getR (b := 9) (pc2 := 50) dX11_init_47 rfl fX11_21 (by rw [show (pNew M3 1 2).1.2.1 2 = M3.1.2.1 2 from up_ne (by omega)]; exact i3.2.2.1) (by rw [show (pNew M3 1 2).1.2.2 2 = M3.1.2.2 2 from pZ_ne (by omega)]; exact i3.2.2.2.2.1 1) ?_
  refine r_aload0 (pc2 := 51) dX11_init_50 rfl ?_
  refine r_getR (b := 19) (pc2 := 54) dX11_init_51 rfl fX11_28 (by rw [show (pNew M3 1 2).1.2.1 2 = M3.1.2.1 2 from up_ne (by omega)]; exact i3.2.2.1) (by rw [show (pNew M3 1 2).1.2.2 2 = M3.1.2.2 2 from pZ_ne (by omega)]; exact i3.2.2.2.2.1 2) ?_
  refine go_invI (kc := 277) (ks := 55022) (kc2 := 10) (ks2 := 1560) (as := [.ref 9, .ref 19]) dX11_init_54 iX11_34 rfl (by decide) (hC _ _ _ _ _ _ (c_X2_init (d := 9) (show FR (pNew M3 1 2) 29 2 by rw [← a3]; exact FR.new))) ?_
  rintro _ N4 ⟨rfl, g4⟩
  have j4 : N4.1.2.1 2 = (1, 11) := (g4.2.1 2 (by decide)).trans ((show (pNew M3 1 2).1.2.1 2 = M3.1.2.1 2 from up_ne (by omega)).trans i3.2.2.1)
  refine r_putR (b := 29) (pc2 := 60) dX11_init_57 rfl fX11_37 (wf11_3 rfl rfl) j4 (by decide) ?_
  obtain ⟨M4, e4⟩ : ∃ M4, M4 = pR N4 2 3 (some 29) := ⟨_, rfl⟩
  have i4 := i3.ob g4 (by decide +kernel) rfl (Or.inl (by decide)) (Or.inr (by decide))
  rw [← e4] at i4
  show Go C Q yX11_init cX11_init none 277 55022 60 [some (.ref 2), none] [] (pR N4 2 3 (some 29))
  rw [← e4]
  refine r_aload0 (pc2 := 61) dX11_init_60 rfl ?_
  have a4 : M4.1.1 = 40 := i4.1
  refine r_nwm (N := 3) (kc := 65) (ks := 37820) (kc2 := 211) (ks2 := 17199) (pc1 := 64) (pc2 := 65) (pc3 := 68) a4 dX11_init_61 rfl nX11_41 dX11_init_64 rfl dX11_init_65 rfl iX11_43 (by decide) (hC _ _ _ _ _ _ (c_X3_init (d := 7) (show FR (pNew M4 1 3) 40 3 by rw [← a4]; exact FR.new))) ?_
  rintro _ N5 ⟨rfl, g5⟩
  have j5 : N5.1.2.1 2 = (1, 11) := (g5.2.1 2 (by decide)).trans ((show (pNew M4 1 3).1.2.1 2 = M4.1.2.1 2 from up_ne (by omega)).trans i4.2.2.1)
  refine r_putR (b := 40) (pc2 := 71) dX11_init_68 rfl fX11_44 (wf11_4 rfl rfl) j5 (by decide) ?_
  obtain ⟨M5, e5⟩ : ∃ M5, M5 = pR N5 2 4 (some 40) := ⟨_, rfl⟩
  have i5 := i4.ob g5 (by decide +kernel) rfl (Or.inl (by decide)) (Or.inr (by decide))
  rw [← e5] at i5
  show Go C Q yX11_init cX11_init none 65 37820 71 [some (.ref 2), none] [] (pR N5 2 4 (some 40))
  rw [← e5]
  refine r_aload0 (pc2 := 72) dX11_init_71 rfl ?_
  refine r_iconst (pc2 := 73) dX11_init_72 rfl ?_
  refine r_anp (n := 4) (kc := 64) (ks := 37816) (pc1 := 76) (pc2 := 79) dX11_init_73 rfl naX11_25 rfl (by decide) dX11_init_76 rfl fX11_48 (wf11_5 rfl rfl) i5.2.2.1 (by decide) (by rw [i5.1]; decide) (fun M6 e6 _ _ => ?_)
  have i6 := i5.ar e6 (by decide +kernel) rfl (by decide) (by decide) (Or.inl rfl)
  refine r_aload0 (pc2 := 80) dX11_init_79 rfl ?_
  refine r_iconst (pc2 := 81) dX11_init_80 rfl ?_
  refine r_nap (t := 5) (n := 4) (kc := 63) (ks := 37812) (pc1 := 83) (pc2 := 86) dX11_init_81 rfl (Or.inr (Or.inr (Or.inr ⟨rfl, rfl⟩))) rfl (by decide) dX11_init_83 rfl fX11_52 (wf11_6 rfl rfl) i6.2.2.1 (by decide) (by rw [i6.1]; decide) (fun M7 e7 _ _ => ?_)
  have i7 := i6.ar e7 (by decide +kernel) rfl (by decide) (by decide) (Or.inr (by decide))
  refine r_aload0 (pc2 := 87) dX11_init_86 rfl ?_
  have a7 : M7.1.1 = 254 := i7.1
  refine r_nwm (N := 2) (kc := 61) (ks := 37710) (kc2 := 1) (ks2 := 100) (pc1 := 90) (pc2 := 91) (pc3 := 94) a7 dX11_init_87 rfl nX11_56 dX11_init_90 rfl dX11_init_91 rfl iX11_58 (by decide) (hC _ _ _ _ _ _ (c_X1_init (d := 9) (show FR (pNew M7 1 1) 254 1 by rw [← a7]; exact FR.new))) ?_
  rintro _ N8 ⟨rfl, g8⟩
  have j8 : N8.1.2.1 2 = (1, 11) := (g8.2.1 2 (by decide)).trans ((show (pNew M7 1 1).1.2.1 2 = M7.1.2.1 2 from up_ne (by omega)).trans i7.2.2.1)
  refine r_putR (b := 254) (pc2 := 97) dX11_init_94 rfl fX11_59 (wf11_7 rfl rfl) j8 (by decide) ?_
  obtain ⟨M8, e8⟩ : ∃ M8, M8 = pR N8 2 7 (some 254) := ⟨_, rfl⟩
  have i8 := i7.ob g8 (by decide +kernel) rfl (Or.inl (by decide)) (Or.inl (by decide))
  rw [← e8] at i8
  show Go C Q yX11_init cX11_init none 61 37710 97 [some (.ref 2), none] [] (pR N8 2 7 (some 254))
  rw [← e8]
  refine r_aload0 (pc2 := 98) dX11_init_97 rfl ?_
  have a8 : M8.1.1 = 256 := i8.1
  refine r_nwm (N := 9) (kc := 54) (ks := 9509) (kc2 := 6) (ks2 := 28192) (pc1 := 101) (pc2 := 102) (pc3 := 105) a8 dX11_init_98 rfl nX11_63 dX11_init_101 rfl dX11_init_102 rfl iX11_65 (by decide) (hC _ _ _ _ _ _ (c_X6_init (d := 9) (show FR (pNew M8 1 6) 256 6 by rw [← a8]; exact FR.new))) ?_
  rintro _ N9 ⟨rfl, g9⟩
  have j9 : N9.1.2.1 2 = (1, 11) := (g9.2.1 2 (by decide)).trans ((show (pNew M8 1 6).1.2.1 2 = M8.1.2.1 2 from up_ne (by omega)).trans i8.2.2.1)
  refine r_putR (b := 256) (pc2 := 108) dX11_init_105 rfl fX11_66 (wf11_8 rfl rfl) j9 (by decide) ?_
  obtain ⟨M9, e9⟩ : ∃ M9, M9 = pR N9 2 8 (some 256) := ⟨_, rfl⟩
  have i9 := i8.ob g9 (by decide +kernel) rfl (Or.inl (by decide)) (Or.inl (by decide))
  rw [← e9] at i9
  show Go C Q yX11_init cX11_init none 54 9509 108 [some (.ref 2), none] [] (pR N9 2 8 (some 256))
  rw [← e9]
  refine r_aload0 (pc2 := 109) dX11_init_108 rfl ?_
  have a9 : M9.1.1 = 263 := i9.1
  refine r_nwm (N := 3) (kc := 53) (ks := 9506) (kc2 := 0) (ks2 := 0) (pc1 := 112) (pc2 := 113) (pc3 := 116) a9 dX11_init_109 rfl nX11_70 dX11_init_112 rfl dX11_init_113 rfl iX11_72 (by decide) (hC _ _ _ _ _ _ (c_X5_init (d := 9) (show FR (pNew M9 1 5) 263 5 by rw [← a9]; exact FR.new))) ?_
  rintro _ N10 ⟨rfl, g10⟩
  have j10 : N10.1.2.1 2 = (1, 11) := (g10.2.1 2 (by decide)).trans ((show (pNew M9 1 5).1.2.1 2 = M9.1.2.1 2 from up_ne (by omega)).trans i9.2.2.1)
  refine r_putR (b := 263) (pc2 := 119) dX11_init_116 rfl fX11_73 (wf11_9 rfl rfl) j10 (by decide) ?_
  obtain ⟨M10, e10⟩ : ∃ M10, M10 = pR N10 2 9 (some 263) := ⟨_, rfl⟩
  have i10 := i9.ob g10 (by decide +kernel) rfl (Or.inl (by decide)) (Or.inl (by decide))
  rw [← e10] at i10
  show Go C Q yX11_init cX11_init none 53 9506 119 [some (.ref 2), none] [] (pR N10 2 9 (some 263))
  rw [← e10]
  refine r_aload0 (pc2 := 120) dX11_init_119 rfl ?_
  have a10 : M10.1.1 = 264 := i10.1
  refine r_nwm (N := 5) (kc := 51) (ks := 6500) (kc2 := 1) (ks2 := 3001) (pc1 := 123) (pc2 := 124) (pc3 := 127) a10 dX11_init_120 rfl nX11_77 dX11_init_123 rfl dX11_init_124 rfl iX11_79 (by decide) (hC _ _ _ _ _ _ (c_X9_init (d := 9) (show FR (pNew M10 1 9) 264 9 by rw [← a10]; exact FR.new))) ?_
  rintro _ N11 ⟨rfl, g11⟩
  have j11 : N11.1.2.1 2 = (1, 11) := (g11.2.1 2 (by decide)).trans ((show (pNew M10 1 9).1.2.1 2 = M10.1.2.1 2 from up_ne (by omega)).trans i10.2.2.1)
  refine r_putR (b := 264) (pc2 := 130) dX11_init_127 rfl fX11_80 (wf11_10 rfl rfl) j11 (by decide) ?_
  obtain ⟨M11, e11⟩ : ∃ M11, M11 = pR N11 2 10 (some 264) := ⟨_, rfl⟩
  have i11 := i10.ob g11 (by decide +kernel) rfl (Or.inl (by decide)) (Or.inl (by decide))
  rw [← e11] at i11
  show Go C Q yX11_init cX11_init none 51 6500 130 [some (.ref 2), none] [] (pR N11 2 10 (some 264))
  rw [← e11]
  refine r_aload0 (pc2 := 131) dX11_init_130 rfl ?_
  have a11 : M11.1.1 = 266 := i11.1
  refine r_nwm (N := 6) (kc := 47) (ks := 3469) (kc2 := 3) (ks2 := 3025) (pc1 := 134) (pc2 := 135) (pc3 := 138) a11 dX11_init_131 rfl nX11_84 dX11_init_134 rfl dX11_init_135 rfl iX11_86 (by decide) (hC _ _ _ _ _ _ (c_X10_init (d := 9) (show FR (pNew M11 1 10) 266 10 by rw [← a11]; exact FR.new))) ?_
  rintro _ N12 ⟨rfl, g12⟩
  have j12 : N12.1.2.1 2 = (1, 11) := (g12.2.1 2 (by decide)).trans ((show (pNew M11 1 10).1.2.1 2 = M11.1.2.1 2 from up_ne (by omega)).trans i11.2.2.1)
  refine r_putR (b := 266) (pc2 := 141) dX11_init_138 rfl fX11_87 (wf11_11 rfl rfl) j12 (by decide) ?_
  obtain ⟨M12, e12⟩ : ∃ M12, M12 = pR N12 2 11 (some 266) := ⟨_, rfl⟩
  have i12 := i11.ob g12 (by decide +kernel) rfl (Or.inl (by decide)) (Or.inl (by decide))
  rw [← e12] at i12
  show Go C Q yX11_init cX11_init none 47 3469 141 [some (.ref 2), none] [] (pR N12 2 11 (some 266))
  rw [← e12]
  refine r_aload0 (pc2 := 142) dX11_init_141 rfl ?_
  have a12 : M12.1.1 = 270 := i12.1
  refine r_nwm (N := 9) (kc := 40) (ks := 3272) (kc2 := 6) (ks2 := 188) (pc1 := 145) (pc2 := 146) (pc3 := 149) a12 dX11_init_142 rfl nX11_91 dX11_init_145 rfl dX11_init_146 rfl iX11_93 (by decide) (hC _ _ _ _ _ _ (c_X7_init (d := 9) (show FR (pNew M12 1 7) 270 7 by rw [← a12]; exact FR.new))) ?_
  rintro _ N13 ⟨rfl, g13⟩
  have j13 : N13.1.2.1 2 = (1, 11) := (g13.2.1 2 (by decide)).trans ((show (pNew M12 1 7).1.2.1 2 = M12.1.2.1 2 from up_ne (by omega)).trans i12.2.2.1)
  refine r_putR (b := 270) (pc2 := 152) dX11_init_149 rfl fX11_94 (wf11_12 rfl rfl) j13 (by decide) ?_
  obtain ⟨M13, e13⟩ : ∃ M13, M13 = pR N13 2 12 (some 270) := ⟨_, rfl⟩
  have i13 := i12.ob g13 (by decide +kernel) rfl (Or.inl (by decide)) (Or.inl (by decide))
  rw [← e13] at i13
  show Go C Q yX11_init cX11_init none 40 3272 152 [some (.ref 2), none] [] (pR N13 2 12 (some 270))
  rw [← e13]
  refine r_iconst (pc2 := 153) dX11_init_152 rfl ?_
  refine r_istore1 (pc2 := 154) dX11_init_153 rfl rfl ?_
  obtain ⟨h1, -, h3, h4, h5, h6, h7, h9, h10, h11⟩ := i13
  refine lp_X11_init M hC hQ 4 0 M13 (by decide) ⟨h1, h3, h4, fun j => ?_, h6, h7, h9, h10 (by decide), fun j => by rw [if_neg (by omega)]; exact h11 (by decide) j⟩
  rw [h5 j]
  by_cases u : j < 13
  · rw [if_pos u]
  · rw [if_neg u]
    obtain ⟨m, rfl⟩ : ∃ m, j = m + 13 := ⟨j - 13, by omega⟩
    rfl
