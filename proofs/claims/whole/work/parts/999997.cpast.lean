/-! what is made so far; the past -/
/-- all cells of lo .. n are as the constructors leave them (e: but for the references of this one) -/
def DN (M : pM) (lo e n : Nat) : Prop := ∀ c, lo ≤ c → c < n → M.1.2.1 c = k0 c ∧ (c ≠ e → ∀ j, M.1.2.2 c j = r0 c j) ∧ (∀ j, M.2.1 c j = z0 c j) ∧ (c ≠ 4 → c ≠ 322 → bO c ≠ 4 → bO c ≠ 6 → ∀ j, M.2.2 c j = 0)
def SB (M M2 : pM) (n : Nat) : Prop := ∀ c, c < n → M2.1.2.1 c = M.1.2.1 c ∧ M2.1.2.2 c = M.1.2.2 c ∧ M2.2.1 c = M.2.1 c ∧ M2.2.2 c = M.2.2 c
theorem SB.rf {M : pM} {n : Nat} : SB M M n := fun _ _ => ⟨rfl, rfl, rfl, rfl⟩
theorem SB.tr {M M1 M2 : pM} {n : Nat} (h : SB M M1 n) (h2 : SB M1 M2 n) : SB M M2 n := fun c hc => ⟨(h2 c hc).1.trans (h c hc).1, (h2 c hc).2.1.trans (h c hc).2.1, (h2 c hc).2.2.1.trans (h c hc).2.2.1, (h2 c hc).2.2.2.trans (h c hc).2.2.2⟩
theorem SB.mono {M M2 : pM} {n m : Nat} (h : SB M M2 n) (hm : m ≤ n) : SB M M2 m := fun c hc => h c (by omega)
theorem SB.new {M : pM} {t k : Nat} : SB M (pNew M t k) M.1.1 := fun c hc => ⟨up_ne (by omega), pZ_ne (by omega), pZ_ne (by omega), pZ_ne (by omega)⟩
theorem SB.R {M M2 : pM} {n a k : Nat} {b : Option Nat} (h : SB M M2 n) (ha : n ≤ a) : SB M (pR M2 a k b) n := fun c hc => ⟨(h c hc).1, (pU_ne (by omega)).trans (h c hc).2.1, (h c hc).2.2⟩
theorem GW.sb {M M2 : pM} {a n2 : Nat} (g : GW M M2 a n2) : SB M M2 a := fun c hc => ⟨g.2.1 c (by omega), (g.2.2.1 c hc)⟩
theorem DN.sb {M M2 : pM} {lo e n : Nat} (h : DN M lo e n) (s : SB M M2 n) : DN M2 lo e n := fun c h1 h2 => by
  obtain ⟨s1, s2, s3, s4⟩ := s c h2
  rw [s1, s2, s3, s4]
  exact h c h1 h2
/-- one more object -/
theorem DN.ext {M M2 : pM} {lo e n2 ci : Nat} (h : DN M lo e M.1.1) (g : GW (pNew M 1 ci) M2 M.1.1 n2) (hk : k0 M.1.1 = (1, ci)) : DN M2 lo e n2 ∧ M2.1.1 = n2 ∧ SB M M2 M.1.1 ∧ M2.1.2.1 M.1.1 = (1, ci) ∧ M.1.1 < n2 := by
  have s : SB M M2 M.1.1 := SB.new.tr g.sb
  obtain ⟨⟨-, g1, g1b⟩, g2, -, g4, g5, g6, g7⟩ := g
  have hka : M2.1.2.1 M.1.1 = (1, ci) := (g2 M.1.1 (Nat.le_refl _)).trans up_at
  refine ⟨fun c h1 h2 => ?_, g1, s, hka, g1b⟩
  by_cases u : c < M.1.1
  · exact (h.sb s) c h1 u
  · by_cases u2 : c = M.1.1
    · subst u2
      exact ⟨by rw [hka, hk], fun _ => g6, g7, fun q1 q2 q3 q4 => g5 _ (Nat.le_refl _) h2 q1 q2 q3 q4⟩
    · obtain ⟨q1, q2, q3⟩ := g4 c (by omega) h2
      exact ⟨q1, fun _ => q2, q3, fun w1 w2 w3 w4 => g5 c (by omega) h2 w1 w2 w3 w4⟩
theorem DN.Re {M : pM} {lo e n k : Nat} {b : Option Nat} (h : DN M lo e n) : DN (pR M e k b) lo e n := fun c h1 h2 => ⟨(h c h1 h2).1, fun q j => by
  show pU M.1.2.2 e k b c j = _
  rw [pU_ne q]; exact (h c h1 h2).2.1 q j, (h c h1 h2).2.2⟩
theorem DN.Ro {M : pM} {lo e n a k : Nat} {b : Option Nat} (h : DN M lo e n) (ha : a < lo) : DN (pR M a k b) lo e n := fun c h1 h2 => ⟨(h c h1 h2).1, fun q j => by
  show pU M.1.2.2 a k b c j = _
  rw [pU_ne (by omega)]; exact (h c h1 h2).2.1 q j, (h c h1 h2).2.2⟩
theorem k0_bb {b : Nat} (hb : isB b) : k0 b = (1, 0) := by
  have h : ∀ b ∈ ([19, 42, 52, 62, 72, 82, 92, 102, 112, 122, 132, 142, 152, 162, 172, 182, 192, 202, 212, 222, 232, 242, 277, 287, 297, 307] : List Nat), k0 b = (1, 0) := by decide +kernel
  exact h b hb
theorem r0_41 {j : Nat} : r0 41 j = if j < 21 then some (42 + 10 * j) else none := by
  by_cases c : j < 21
  · rw [if_pos c]
    have h : ∀ j, j < 21 → r0 41 j = some (42 + 10 * j) := by decide +kernel
    exact h j c
  · rw [if_neg c]
    obtain ⟨m, rfl⟩ : ∃ m, j = m + 21 := ⟨j - 21, by omega⟩
    rfl
theorem r0_252 {j : Nat} : r0 252 j = if j < 4 then some (277 + 10 * j) else none := by
  by_cases c : j < 4
  · rw [if_pos c]
    have h : ∀ j, j < 4 → r0 252 j = some (277 + 10 * j) := by decide +kernel
    exact h j c
  · rw [if_neg c]
    obtain ⟨m, rfl⟩ : ∃ m, j = m + 4 := ⟨j - 4, by omega⟩
    rfl
def PI9 (M0 M : pM) (i : Nat) : Prop := M.1.1 = 42 + 10 * i ∧ DN M 40 41 (42 + 10 * i) ∧ (∀ j, M.1.2.2 41 j = if j < i then some (42 + 10 * j) else none) ∧ SB M0 M 40
set_option maxHeartbeats 4000000 in
theorem lp_X3_init {d : Nat} {Q : pQ} (M0 : pM) (hQ : ∀ M2, PI9 M0 M2 21 → Q none M2) : ∀ (m i : Nat) (M : pM), i + m = 21 → PI9 M0 M i → Go (Ct (d + 2)) Q yX3_init cX3_init none (10 * m) (818 * m) 15 [some (.ref 40), some (.int (iI ((i : Nat) : Int)))] [] M := by
  intro m
  induction m with
  | zero =>
    intro i M hm h
    obtain rfl : i = 21 := by omega
    refine r_iload1 (pc2 := 16) dX3_init_15 rfl ?_
    refine r_bipush (pc2 := 18) dX3_init_16 rfl (by decide) (by decide) ?_
    refine r_icgt (tgt := 40) (pc2 := 21) dX3_init_18 rfl (by decide) ⟨by omega, by omega⟩ ⟨by omega, by omega⟩ (fun _ => ?_) (fun b => absurd b (by omega))
    refine r_ret dX3_init_40 rfl ?_
    exact hQ M h
  | succ m ih =>
    intro i M hm h
    obtain ⟨hn, hD, hr, hs⟩ := h
    have hi : i < 21 := by omega
    have hD40 := hD 40 (by omega) (by omega)
    have hD41 := hD 41 (by omega) (by omega)
    refine r_iload1 (pc2 := 16) dX3_init_15 rfl ?_
    refine r_bipush (pc2 := 18) dX3_init_16 rfl (by decide) (by decide) ?_
    refine r_icgt (tgt := 40) (pc2 := 21) dX3_init_18 rfl (by decide) ⟨by omega, by omega⟩ ⟨by omega, by omega⟩ (fun b => absurd b (by omega)) (fun _ => ?_)
    refine r_aload0 (pc2 := 22) dX3_init_21 rfl ?_
    refine r_getR (pc2 := 25) dX3_init_22 rfl fX3_11 hD40.1 (hD40.2.1 (by decide) 0) ?_
    refine r_iload1 (pc2 := 26) dX3_init_25 rfl ?_
    rw [show 10 * (m + 1) = 10 * m + 9 + 1 by omega, show 818 * (m + 1) = 818 * m + 805 + 13 by omega]
    have hb : isB M.1.1 := by rw [hn]; exact isB_past hi
    refine r_nw0 (pc1 := 29) (pc2 := 30) (pc3 := 33) dX3_init_26 rfl nX3_9 dX3_init_29 rfl dX3_init_30 rfl iX3_15 (Nat.le_of_ble_eq_true rfl) (c_X0_init (d := d) hb FR.new) ?_
    rintro _ M2 ⟨rfl, g⟩
    obtain ⟨q1, q2, q3, q4, q5⟩ := (show DN M 40 41 M.1.1 by rw [hn]; exact hD).ext g (k0_bb hb)
    refine r_aast (pc2 := 34) dX3_init_33 rfl (by rw [(q3 41 (by omega)).1]; exact hD41.1) (by decide) q4 i rfl (by omega) ?_
    refine r_iinc1 (z := ((i + 1 : Nat) : Int)) (pc2 := 37) dX3_init_34 rfl (by omega) rfl ?_
    refine r_goto (tgt := 15) dX3_init_37 (by decide) ?_
    refine ih (i + 1) _ (by omega) ⟨?_, ?_, fun j => ?_, ?_⟩
    · show M2.1.1 = _
      rw [q2, hn]; omega
    · have h9 := q1.Re (k := i) (b := some M.1.1)
      rw [hn] at h9 ⊢
      exact h9
    · show pU M2.1.2.2 41 i (some M.1.1) 41 j = _
      rw [pU_at, (q3 41 (by omega)).2.1]
      by_cases u : j = i
      · rw [u, up_at, if_pos (by omega), hn]
      · rw [up_ne u, hr j]
        by_cases u2 : j < i
        · rw [if_pos u2, if_pos (by omega)]
        · rw [if_neg u2, if_neg (by omega)]
    · exact (hs.tr (q3.mono (by omega))).R (by omega)
set_option maxHeartbeats 4000000 in
theorem c_X3_init {d : Nat} {M : pM}  (hf : FR M 40 3) : Ct (d + 3) 211 17199 yX3_init [.ref 40] M (fun v M2 => v = none ∧ GW M M2 40 252) := by
  refine ct_in (d := d + 2) kX3_init rfl (by decide) (Nat.le_of_ble_eq_true rfl) (by decide) ?_
  show Go (Ct (d + 2)) _ yX3_init cX3_init none 211 17199 0 [some (.ref 40), none] [] M
  have kk0 := hf.2.1
  have l0 : 40 < M.1.1 := by rw [hf.1]; omega
  refine r_aload0 (pc2 := 1) dX3_init_0 rfl ?_
  refine go_oini dX3_init_1 oX3_1 (by decide) ?_
  refine r_aload0 (pc2 := 5) dX3_init_4 rfl ?_
  refine r_bipush (pc2 := 7) dX3_init_5 rfl (by decide) (by decide) ?_
  refine r_anp (n := 21) (kc := 210) (ks := 17178) (pc1 := 10) (pc2 := 13) dX3_init_7 rfl naX3_9 rfl (by decide) dX3_init_10 rfl fX3_11 (wf3_0 rfl rfl) kk0 (by decide) l0 (fun M1 e1 k1 l1 => ?_)
  refine r_iconst (pc2 := 14) dX3_init_13 rfl ?_
  refine r_istore1 (pc2 := 15) dX3_init_14 rfl rfl ?_
  have h0 : GW M M1 40 42 ∨ True := Or.inr trivial
  obtain ⟨n1, n2, n3, n4, n5, n6⟩ := nd_spec (a := 40) [(6, 21, 0)] M l0
  rw [← show M1 = nd 40 M [(6, 21, 0)] by rw [e1]; rfl, hf.1] at n1 n2 n3 n4 n5 n6
  obtain ⟨w1, w2, w3, w4⟩ := n6 0 _ rfl
  refine lp_X3_init (d := d) M (fun M2 h => ?_) 21 0 M1 (by omega) ⟨n1, fun c q1 q2 => ?_, fun j => by rw [if_neg (by omega)]; exact congrFun w2 j, fun c hc => ⟨n2 c (by omega), n3 c (by omega) (by omega), n4 c (by omega)⟩⟩
  · obtain ⟨h1, h2, h3, h4⟩ := h
    refine ⟨rfl, ⟨hf.1, h1, by decide⟩, fun c hc => ?_, fun c hc => ⟨(h4 c hc).2.1, (h4 c hc).2.2⟩, fun c q1 q2 => ?_, fun c q1 q2 w5 w6 w7 w8 => (h2 c (by omega) q2).2.2.2 w5 w6 w7 w8, (h2 40 (by omega) (by omega)).2.1 (by decide), (h2 40 (by omega) (by omega)).2.2.1⟩
    · by_cases u : c = 40
      · rw [u, (h2 40 (by omega) (by omega)).1, hf.2.1]; rfl
      · exact (h4 c (by omega)).1
    · obtain ⟨z1, z2, z3, -⟩ := h2 c (by omega) q2
      refine ⟨z1, fun j => ?_, z3⟩
      by_cases u : c = 41
      · rw [u, h3, r0_41]
      · exact z2 u j
  · by_cases u : c = 40
    · subst u
      refine ⟨by rw [n2 40 (by omega), hf.2.1]; rfl, fun _ j => ?_, fun j => by rw [(n4 40 (by omega)).1, hf.2.2.2.1, z0_0 (by decide)], fun _ _ _ _ j => by rw [(n4 40 (by omega)).2, hf.2.2.2.2]⟩
      rw [n5, hf.2.2.1]
      match j with
      | 0 => rfl
      | j + 1 => simp only [ndr]; rw [up_ne (by omega)]; rfl
    · obtain rfl : c = 41 := by omega
      exact ⟨w1.trans (by decide), fun q => absurd rfl q, fun j => by rw [show M1.2.1 41 j = 0 from congrFun w3 j, z0_0 (by decide)], fun _ _ _ _ j => congrFun w4 j⟩
