/-! the model's comesRound (lead: field 40, period: field 41 of 317) -/
def KM (pc sz : Nat → Int) (k : (Nat → Int) × Nat) (v w : Int64) : Prop := v = lN (cdN pc k.1 156) ∧ w = jL ((k.2 : Nat) : Int) ∧ k.2 < 4 ∧ Ksh pc sz k.1
theorem KM.key {pc sz : Nat → Int} {k k2 : (Nat → Int) × Nat} {v w v2 w2 : Int64} (hc : mvc pc 156 ≤ 16) (h : KM pc sz k v w) (h2 : KM pc sz k2 v2 w2) : (v = v2 ∧ w = w2) ↔ k = k2 := by
  obtain ⟨rfl, rfl, a3, a4⟩ := h
  obtain ⟨rfl, rfl, b3, b4⟩ := h2
  rw [cdN_key hc a4 b4, jL_key a3 b3]
  exact ⟨fun h => Prod.ext h.1 h.2, fun h => by rw [h]; exact ⟨rfl, rfl⟩⟩
theorem TN.dr {M M2 : pM} {n : Nat} {A B : Nat → Int64} (h : TN M n A B) (hf : fr [330] M M2) : TN M2 n A B := by
  obtain ⟨s1, s2, s3, s4, s6⟩ := h
  refine ⟨by rw [hf.i (by decide)]; exact s1, s2, fun i hi => by rw [hf.j (by decide), hf.j (by decide)]; exact s3 i hi, fun c hc => by rw [hf.i (by decide)]; exact s4 c hc, s6.congr (fun c hc => ?_) (fun i _ => ⟨rfl, rfl⟩)⟩
  unfold occM
  rw [hf.i (by decide)]
set_option maxHeartbeats 4000000 in
theorem ex_X12_comesRound {d : Nat} {Q : pQ} {M : pM} {hop z : Int} {l4 l6 l7 : Option Value} (hQ : Q (some (.int (iI 0))) M) : Go (Ct d) Q yX12_comesRound cX12_comesRound (some .boolean) 0 0 22 [some (.ref 317), some (.int (iI hop)), some (.int (iI z)), some (.int (iI 0)), l4, none, l6, l7] [] M := by
  refine r_iload3 (pc2 := 23) dX12_comesRound_22 rfl ?_
  refine r_ifeq (tgt := 164) (pc2 := 26) dX12_comesRound_23 rfl (by decide) ⟨by omega, by omega⟩ (fun _ => ?_) (fun h9 => absurd h9 (by decide))
  refine r_iconst (pc2 := 165) dX12_comesRound_164 rfl ?_
  refine r_iretz dX12_comesRound_165 rfl (by omega) ?_
  exact hQ
set_option maxHeartbeats 8000000 in
theorem lp_X12_comesRound {d : Nat} {Q : pQ} {pc sz tr kd lv : Nat → Int} {co : Nat → Nat} {R : Int → Int → Prop} {hop : Int} (M0 : pM) (hS0 : sOk M0.1) (hP : ∀ p, p < 156 → M0.2.1 328 (156 * 26 + p) = pc p) (hZ : ∀ p, p < 156 → M0.2.1 329 (156 * 26 + p) = sz p) (hT : ∀ p, p < 156 → M0.2.1 335 (156 * 0 + p) = tr p ∧ -1 ≤ tr p ∧ tr p < 156) (hc : mvc pc 156 ≤ 16) (hkd : ∀ h, h < 4 → M0.2.1 333 (4 * 26 + h) = kd h ∧ inR (kd h)) (hco : ∀ h, h < 4 → M0.2.1 332 (4 * 26 + h) = ((co h : Nat) : Int) ∧ co h < 13) (hlv : ∀ x, x < 13 → M0.2.1 331 (338 + x) = lv x ∧ -1 ≤ lv x ∧ lv x < 4)
    (hQ : ∀ M M2 r a b, R a b → fr [317, 330, 338, 339, 340, 341, 342] M0 M → (∀ j, j ≠ 38 → M.2.1 317 j = M0.2.1 317 j) → (∃ s9, M.2.1 330 = sB (M0.2.1 330) 156 26 s9) → (M2 = M ∧ a = -1 ∧ b = -1 ∧ r = 0 ∨ M2 = pI (pI M 317 40 a) 317 41 b ∧ r = 1) → Q (some (.int (iI r))) M2) :
    ∀ (m n : Nat) (k : (Nat → Int) × Nat) (K : Nat → (Nat → Int) × Nat) (A B : Nat → Int64) (M : pM) (l4 l6 l7 : Option Value), n + m = 4001 → fr [317, 330, 338, 339, 340, 341, 342] M0 M → (∀ j, j ≠ 38 → M.2.1 317 j = M0.2.1 317 j) → M.2.1 330 = sB (M0.2.1 330) 156 26 k.1 → TN M n A B → (∀ i, i < n → KM pc sz (K i) (A i) (B i)) → k.2 < 4 → Ksh pc sz k.1 → (∀ a b, rnd (stp pc sz tr kd co lv) m n K k a b → R a b) →
      Go (Ct (d + 3)) Q yX12_comesRound cX12_comesRound (some .boolean) 0 0 22 [some (.ref 317), some (.int (iI hop)), some (.int (iI ((k.2 : Nat) : Int))), some (.int (iI 1)), l4, none, l6, l7] [] M := by
  intro m
  induction m with
  | zero => intro n k K A B M l4 l6 l7 hm hfr _ _ hN; have := hN.2.1; omega
  | succ m ih =>
    intro n k K A B M l4 l6 l7 hm hfr h317 h330 hN hK hk4 hks hR
    have hS := hfr.ok hS0
    have hn4 := hN.2.1
    have hkm : KM pc sz k (lN (cdN pc k.1 156)) (jL ((k.2 : Nat) : Int)) := ⟨rfl, rfl, hk4, hks⟩
    have hdk := dHow_K (tr := tr) (kd := kd) (st := -2) (hco k.2 hk4).2 hks
    have hl : (dHow pc sz tr kd co (-2) k.1 k.2).1 < 256 → -1 ≤ lv (dHow pc sz tr kd co (-2) k.1 k.2).1.toNat ∧ lv (dHow pc sz tr kd co (-2) k.1 k.2).1.toNat < 4 := fun h => (hlv _ (by omega)).2
    have hP9 : ∀ p, p < 156 → M.2.1 328 (156 * 26 + p) = pc p := fun p hp => by rw [hfr.i (by decide)]; exact hP p hp
    have hpr : ∀ p, p < 156 → 0 ≤ pc p ∧ pc p ≤ 9 := fun p hp => (hks.1 p hp).1
    have hH9 : ∀ p, p < 156 → M.2.1 330 (156 * 26 + p) = k.1 p := fun p hp => by rw [h330, sB_in hp]
    rw [show rnd (stp pc sz tr kd co lv) (m + 1) n K k = _ from by funext a b; rw [rnd]] at hR
    have hdrop : ∀ M9 : pM, fr [317, 330, 338, 339, 340, 341, 342] M0 M9 → M9.2.1 330 = sB (M0.2.1 330) 156 26 k.1 → Ct (d + 3) 0 0 yX12_drops [.ref 317, .int (iI 26), .int (iI 0), .int (iI ((k.2 : Nat) : Int)), .int (iI (-2))] M9 (fun r M2 => r = some (.int (iI (dHow pc sz tr kd co (-2) k.1 k.2).1)) ∧ fr [330] M9 M2 ∧ M2.2.1 330 = sB (M9.2.1 330) 156 26 (dHow pc sz tr kd co (-2) k.1 k.2).2) := fun M9 h9 h8 => c_X12_drops (d := d) (b := 26) (s := 0) (st := -2) (pc := pc) (sz := sz) (tr := tr) (sh := k.1) (h9.ok hS0) (by decide) (by decide) hk4 ⟨by decide, by decide⟩ (by rw [h9.i (by decide)]; exact (hkd _ hk4).1) (hkd _ hk4).2 (by rw [h9.i (by decide)]; exact (hco _ hk4).1) (hco _ hk4).2 ⟨fun p hp => by rw [h9.i (by decide)]; exact hP p hp, fun p hp => by rw [h9.i (by decide)]; exact hZ p hp, fun p hp => by rw [h8, sB_in hp], fun p hp => by rw [h9.i (by decide)]; exact hT p hp, hks.1⟩
    refine r_iload3 (pc2 := 23) dX12_comesRound_22 rfl ?_
    refine r_ifeq (tgt := 164) (pc2 := 26) dX12_comesRound_23 rfl (by decide) ⟨by omega, by omega⟩ (fun h9 => absurd h9 (by decide)) (fun _ => ?_)
    refine r_aload0 (pc2 := 27) dX12_comesRound_26 rfl ?_
    refine r_bipush (pc2 := 29) dX12_comesRound_27 rfl (by decide) (by decide) ?_
    refine r_cv1 (pc2 := 32) dX12_comesRound_29 rfl vX12_340 (hK_317 hS) (by decide) (c_X12_code (d := d + 1) (b := 26) (pc := pc) (sh := k.1) hS (by decide) hP9 hpr hH9 hks.1.lt hc) ?_
    rintro _ M9 ⟨rfl, h9⟩
    rw [h9]
    show Go (Ct (d + 3)) _ yX12_comesRound cX12_comesRound (some .boolean) 0 0 32 [some (.ref 317), some (.int (iI hop)), some (.int (iI ((k.2 : Nat) : Int))), some (.int (iI 1)), l4, none, l6, l7] [.long (lN (cdN pc k.1 156))] M
    refine r_lstore4 (pc2 := 34) dX12_comesRound_32 rfl rfl ?_
    refine r_aload0 (pc2 := 35) dX12_comesRound_34 rfl ?_
    refine r_getR (pc2 := 38) dX12_comesRound_35 rfl fX12_128 (hK_317 hS) (hR_317_39 hS) ?_
    refine r_aload0 (pc2 := 39) dX12_comesRound_38 rfl ?_
    refine r_lload4 (pc2 := 41) dX12_comesRound_39 rfl ?_
    refine r_iload2 (pc2 := 42) dX12_comesRound_41 rfl ?_
    refine r_i2l (pc2 := 43) dX12_comesRound_42 rfl ⟨by omega, by omega⟩ ?_
    refine r_cv2 (pc2 := 46) dX12_comesRound_43 rfl vX12_333 (hK_317 hS) (by decide) (c_X12_placeIn (d := d + 2) (a := (lN (cdN pc k.1 156))) (b := (jL ((k.2 : Nat) : Int))) hS hN) ?_
    rintro _ M9 ⟨t, ht, rfl, h9, hw, hor⟩
    rw [h9]
    clear h9
    have hcl : (hM (lN (cdN pc k.1 156)) (jL ((k.2 : Nat) : Int)) + t) % 8192 < 8192 := Nat.mod_lt _ (by decide)
    have q1 := hN.2.2.2.1 _ hcl
    generalize hce : (hM (lN (cdN pc k.1 156)) (jL ((k.2 : Nat) : Int)) + t) % 8192 = e at hcl q1 hor ⊢
    show Go (Ct (d + 3)) _ yX12_comesRound cX12_comesRound (some .boolean) 0 0 46 [some (.ref 317), some (.int (iI hop)), some (.int (iI ((k.2 : Nat) : Int))), some (.int (iI 1)), some (.long (lN (cdN pc k.1 156))), none, l6, l7] [.int (iI ((e : Nat) : Int)), .ref 342] M
    refine r_iald (z := (M.2.1 342 e)) (pc2 := 47) dX12_comesRound_46 rfl (hK_342 hS) e rfl (by omega) rfl ?_
    refine r_istore6 (pc2 := 49) dX12_comesRound_47 rfl rfl ?_
    refine r_iload6 (pc2 := 51) dX12_comesRound_49 rfl ?_
    refine r_ifle (tgt := 77) (pc2 := 54) dX12_comesRound_51 rfl (by decide) ⟨by omega, by omega⟩ (fun b_51 => ?_) (fun b_51 => ?_)
    · refine r_aload0 (pc2 := 78) dX12_comesRound_77 rfl ?_
      refine r_lload4 (pc2 := 80) dX12_comesRound_78 rfl ?_
      refine r_iload2 (pc2 := 81) dX12_comesRound_80 rfl ?_
      refine r_i2l (pc2 := 82) dX12_comesRound_81 rfl ⟨by omega, by omega⟩ ?_
      refine r_iconst (pc2 := 83) dX12_comesRound_82 rfl ?_
      refine r_iconst (pc2 := 84) dX12_comesRound_83 rfl ?_
      refine r_sipush (pc2 := 87) dX12_comesRound_84 rfl (by decide) (by decide) ?_
      refine r_cv5 (pc2 := 90) dX12_comesRound_87 rfl vX12_350 (hK_317 hS) (by decide) (c_X12_comesUp (d := d + 1) (mo := 4000) (a := (lN (cdN pc k.1 156))) (b := (jL ((k.2 : Nat) : Int))) (pr := -1) (hp := -1) hS hN ⟨hn4, by decide⟩) ?_
      have hno3 := HW.none hN.2.2.2.2 hw (by rw [hce]; exact occM_none b_51)
      rintro _ M9 (⟨hex, -, -⟩ | ⟨hno, hfull, rfl, h9⟩ | ⟨hno, hroom, rfl, hN9, hf9, -, -, e317⟩)
      · exact absurd hex hno3
      · have hno2 : noK n K k := fun ⟨i, i1, i2⟩ => hno ⟨i, i1, ((hK i i1).key hc hkm).mpr i2⟩
        clear hno hno3
        rw [h9]
        show Go (Ct (d + 3)) _ yX12_comesRound cX12_comesRound (some .boolean) 0 0 90 [some (.ref 317), some (.int (iI hop)), some (.int (iI ((k.2 : Nat) : Int))), some (.int (iI 1)), some (.long (lN (cdN pc k.1 156))), none, some (.int (iI (M.2.1 342 e))), l7] [.int (iI 0)] M
        refine r_istore3 (pc2 := 91) dX12_comesRound_90 rfl rfl ?_
        refine r_iload3 (pc2 := 92) dX12_comesRound_91 rfl ?_
        refine r_ifeq (tgt := 108) (pc2 := 95) dX12_comesRound_92 rfl (by decide) ⟨by omega, by omega⟩ (fun _ => ?_) (fun h9 => absurd h9 (by decide))
        refine r_sipush (pc2 := 111) dX12_comesRound_108 rfl (by decide) (by decide) ?_
        refine r_istore7 (pc2 := 113) dX12_comesRound_111 rfl rfl ?_
        refine r_iload7 (pc2 := 115) dX12_comesRound_113 rfl ?_
        refine r_sipush (pc2 := 118) dX12_comesRound_115 rfl (by decide) (by decide) ?_
        refine r_icge (tgt := 139) (pc2 := 121) dX12_comesRound_118 rfl (by decide) ⟨by omega, by omega⟩ ⟨by omega, by omega⟩ (fun _ => ?_) (fun h9 => absurd h9 (by decide))
        refine r_iconst (pc2 := 140) dX12_comesRound_139 rfl ?_
        refine r_istore3 (pc2 := 141) dX12_comesRound_140 rfl rfl ?_
        refine r_iload3 (pc2 := 142) dX12_comesRound_141 rfl ?_
        refine r_ifeq (tgt := 159) (pc2 := 145) dX12_comesRound_142 rfl (by decide) ⟨by omega, by omega⟩ (fun _ => ?_) (fun h9 => absurd h9 (by decide))
        refine r_iload2 (pc2 := 160) dX12_comesRound_159 rfl ?_
        refine r_istore2 (pc2 := 161) dX12_comesRound_160 rfl rfl ?_
        refine r_goto (tgt := 22) dX12_comesRound_161 (by decide) ?_
        exact ex_X12_comesRound (hQ M _ 0 (-1) (-1) (hR _ _ (Or.inr ⟨hno2, Or.inl ⟨Or.inl (by omega), rfl, rfl⟩⟩)) hfr h317 ⟨_, h330⟩ (Or.inl ⟨rfl, rfl, rfl, rfl⟩))
      · have hno2 : noK n K k := fun ⟨i, i1, i2⟩ => hno ⟨i, i1, ((hK i i1).key hc hkm).mpr i2⟩
        clear hno hno3
        have hf9o := hf9; have hf9 : fr [317, 330, 338, 339, 340, 341, 342] M0 M9 := hfr.tr (hf9.mono (by decide))
        have h330b : M9.2.1 330 = sB (M0.2.1 330) 156 26 k.1 := by rw [← h330, hf9o.i (by decide)]
        show Go (Ct (d + 3)) _ yX12_comesRound cX12_comesRound (some .boolean) 0 0 90 [some (.ref 317), some (.int (iI hop)), some (.int (iI ((k.2 : Nat) : Int))), some (.int (iI 1)), some (.long (lN (cdN pc k.1 156))), none, some (.int (iI (M.2.1 342 e))), l7] [.int (iI 1)] M9
        refine r_istore3 (pc2 := 91) dX12_comesRound_90 rfl rfl ?_
        refine r_iload3 (pc2 := 92) dX12_comesRound_91 rfl ?_
        refine r_ifeq (tgt := 108) (pc2 := 95) dX12_comesRound_92 rfl (by decide) ⟨by omega, by omega⟩ (fun h9 => absurd h9 (by decide)) (fun _ => ?_)
        refine r_aload0 (pc2 := 96) dX12_comesRound_95 rfl ?_
        refine r_bipush (pc2 := 98) dX12_comesRound_96 rfl (by decide) (by decide) ?_
        refine r_iconst (pc2 := 99) dX12_comesRound_98 rfl ?_
        refine r_iload2 (pc2 := 100) dX12_comesRound_99 rfl ?_
        refine r_bipush (pc2 := 102) dX12_comesRound_100 rfl (by decide) (by decide) ?_
        refine r_cv4 (pc2 := 105) dX12_comesRound_102 rfl vX12_312 (hK_317 (hf9.ok hS0)) (by decide) (hdrop M9 hf9 h330b) ?_
        rintro _ M8 ⟨rfl, hf8, h8⟩
        have hf8b : fr [317, 330, 338, 339, 340, 341, 342] M0 M8 := hf9.tr (hf8.mono (by decide))
        have h317b : ∀ j, j ≠ 38 → M8.2.1 317 j = M0.2.1 317 j := fun j hj => by rw [hf8.i (by decide), e317, up_ne hj]; exact h317 j hj
        have hN8 := hN9.dr hf8
        show Go (Ct (d + 3)) _ yX12_comesRound cX12_comesRound (some .boolean) 0 0 105 [some (.ref 317), some (.int (iI hop)), some (.int (iI ((k.2 : Nat) : Int))), some (.int (iI 1)), some (.long (lN (cdN pc k.1 156))), none, some (.int (iI (M.2.1 342 e))), l7] [.int (iI (dHow pc sz tr kd co (-2) k.1 k.2).1)] M8
        refine r_goto (tgt := 111) dX12_comesRound_105 (by decide) ?_
        refine r_istore7 (pc2 := 113) dX12_comesRound_111 rfl rfl ?_
        refine r_iload7 (pc2 := 115) dX12_comesRound_113 rfl ?_
        refine r_sipush (pc2 := 118) dX12_comesRound_115 rfl (by decide) (by decide) ?_
        refine r_icge (tgt := 139) (pc2 := 121) dX12_comesRound_118 rfl (by decide) ⟨by omega, by omega⟩ ⟨by omega, by omega⟩ (fun b_118 => ?_) (fun b_118 => ?_)
        · refine r_iconst (pc2 := 140) dX12_comesRound_139 rfl ?_
          refine r_istore3 (pc2 := 141) dX12_comesRound_140 rfl rfl ?_
          refine r_iload3 (pc2 := 142) dX12_comesRound_141 rfl ?_
          refine r_ifeq (tgt := 159) (pc2 := 145) dX12_comesRound_142 rfl (by decide) ⟨by omega, by omega⟩ (fun _ => ?_) (fun h9 => absurd h9 (by decide))
          refine r_iload2 (pc2 := 160) dX12_comesRound_159 rfl ?_
          refine r_istore2 (pc2 := 161) dX12_comesRound_160 rfl rfl ?_
          refine r_goto (tgt := 22) dX12_comesRound_161 (by decide) ?_
          exact ex_X12_comesRound (hQ M8 _ 0 (-1) (-1) (hR _ _ (Or.inr ⟨hno2, Or.inl ⟨Or.inr (by rw [stp, if_neg (by omega)]), rfl, rfl⟩⟩)) hf8b h317b ⟨_, by rw [h8, h330b, sB_sB]⟩ (Or.inl ⟨rfl, rfl, rfl, rfl⟩))
        · refine r_aload0 (pc2 := 122) dX12_comesRound_121 rfl ?_
          refine r_getR (pc2 := 125) dX12_comesRound_122 rfl fX12_95 (hK_317 (hf8b.ok hS0)) (hR_317_20 (hf8b.ok hS0)) ?_
          refine r_sipush (pc2 := 128) dX12_comesRound_125 rfl (by decide) (by decide) ?_
          refine r_iload7 (pc2 := 130) dX12_comesRound_128 rfl ?_
          refine r_iadd (c := (338 + (dHow pc sz tr kd co (-2) k.1 k.2).1)) (pc2 := 131) dX12_comesRound_130 rfl rfl ?_
          refine r_iald (z := (lv (dHow pc sz tr kd co (-2) k.1 k.2).1.toNat)) (pc2 := 132) dX12_comesRound_131 rfl (hK_331 (hf8b.ok hS0)) (338 + (dHow pc sz tr kd co (-2) k.1 k.2).1.toNat) (by omega) (by omega) (by rw [hf8b.i (by decide)]; exact (hlv _ (by omega)).1) ?_
          refine r_iflt (tgt := 139) (pc2 := 135) dX12_comesRound_132 rfl (by decide) ⟨by omega, by omega⟩ (fun b_132 => ?_) (fun b_132 => ?_)
          · refine r_iconst (pc2 := 140) dX12_comesRound_139 rfl ?_
            refine r_istore3 (pc2 := 141) dX12_comesRound_140 rfl rfl ?_
            refine r_iload3 (pc2 := 142) dX12_comesRound_141 rfl ?_
            refine r_ifeq (tgt := 159) (pc2 := 145) dX12_comesRound_142 rfl (by decide) ⟨by omega, by omega⟩ (fun _ => ?_) (fun h9 => absurd h9 (by decide))
            refine r_iload2 (pc2 := 160) dX12_comesRound_159 rfl ?_
            refine r_istore2 (pc2 := 161) dX12_comesRound_160 rfl rfl ?_
            refine r_goto (tgt := 22) dX12_comesRound_161 (by decide) ?_
            exact ex_X12_comesRound (hQ M8 _ 0 (-1) (-1) (hR _ _ (Or.inr ⟨hno2, Or.inl ⟨Or.inr (by rw [stp, if_neg (by omega)]), rfl, rfl⟩⟩)) hf8b h317b ⟨_, by rw [h8, h330b, sB_sB]⟩ (Or.inl ⟨rfl, rfl, rfl, rfl⟩))
          · refine r_iconst (pc2 := 136) dX12_comesRound_135 rfl ?_
            refine r_goto (tgt := 140) dX12_comesRound_136 (by decide) ?_
            refine r_istore3 (pc2 := 141) dX12_comesRound_140 rfl rfl ?_
            refine r_iload3 (pc2 := 142) dX12_comesRound_141 rfl ?_
            refine r_ifeq (tgt := 159) (pc2 := 145) dX12_comesRound_142 rfl (by decide) ⟨by omega, by omega⟩ (fun h9 => absurd h9 (by decide)) (fun _ => ?_)
            refine r_aload0 (pc2 := 146) dX12_comesRound_145 rfl ?_
            refine r_getR (pc2 := 149) dX12_comesRound_146 rfl fX12_95 (hK_317 (hf8b.ok hS0)) (hR_317_20 (hf8b.ok hS0)) ?_
            refine r_sipush (pc2 := 152) dX12_comesRound_149 rfl (by decide) (by decide) ?_
            refine r_iload7 (pc2 := 154) dX12_comesRound_152 rfl ?_
            refine r_iadd (c := (338 + (dHow pc sz tr kd co (-2) k.1 k.2).1)) (pc2 := 155) dX12_comesRound_154 rfl rfl ?_
            refine r_iald (z := (lv (dHow pc sz tr kd co (-2) k.1 k.2).1.toNat)) (pc2 := 156) dX12_comesRound_155 rfl (hK_331 (hf8b.ok hS0)) (338 + (dHow pc sz tr kd co (-2) k.1 k.2).1.toNat) (by omega) (by omega) (by rw [hf8b.i (by decide)]; exact (hlv _ (by omega)).1) ?_
            refine r_goto (tgt := 160) dX12_comesRound_156 (by decide) ?_
            refine r_istore2 (pc2 := 161) dX12_comesRound_160 rfl rfl ?_
            refine r_goto (tgt := 22) dX12_comesRound_161 (by decide) ?_
            have hs9 : stp pc sz tr kd co lv k = some ((dHow pc sz tr kd co (-2) k.1 k.2).2, (lv (dHow pc sz tr kd co (-2) k.1 k.2).1.toNat).toNat) := by rw [stp, if_pos ⟨by omega, by omega⟩]
            have hlt : ((lv (dHow pc sz tr kd co (-2) k.1 k.2).1.toNat).toNat : Int) = lv (dHow pc sz tr kd co (-2) k.1 k.2).1.toNat := by omega
            rw [← hlt]
            refine ih (n + 1) ((dHow pc sz tr kd co (-2) k.1 k.2).2, (lv (dHow pc sz tr kd co (-2) k.1 k.2).1.toNat).toNat) (va_up K n k) _ _ M8 _ _ _ (by omega) hf8b h317b (by rw [h8, h330b, sB_sB]) hN8 (fun i hi => ?_) (by show (lv (dHow pc sz tr kd co (-2) k.1 k.2).1.toNat).toNat < 4; omega) hdk.1 (fun a b h => hR a b (Or.inr ⟨hno2, Or.inr ⟨by omega, _, hs9, h⟩⟩))
            by_cases e9 : i = n
            · subst e9; rw [up_at, up_at, up_at]; exact hkm
            · rw [up_ne e9, up_ne e9, up_ne e9]; exact hK i (by omega)
    · refine r_aload0 (pc2 := 55) dX12_comesRound_54 rfl ?_
      refine r_iload6 (pc2 := 57) dX12_comesRound_55 rfl ?_
      refine r_iconst (pc2 := 58) dX12_comesRound_57 rfl ?_
      refine r_isub (c := ((M.2.1 342 e) - 1)) (pc2 := 59) dX12_comesRound_58 rfl rfl ?_
      refine r_putI (z := ((M.2.1 342 e) - 1)) (pc2 := 62) dX12_comesRound_59 rfl fX12_344 (w12_40 _) (hK_317 hS) (by decide) ?_
      refine r_aload0 (pc2 := 63) dX12_comesRound_62 rfl ?_
      refine r_aload0 (pc2 := 64) dX12_comesRound_63 rfl ?_
      refine r_getI (z := ((n : Nat) : Int)) (pc2 := 67) dX12_comesRound_64 rfl (Or.inl fX12_324) (hK_317 hS) hN.1 ?_
      refine r_aload0 (pc2 := 68) dX12_comesRound_67 rfl ?_
      refine r_getI (z := ((M.2.1 342 e) - 1)) (pc2 := 71) dX12_comesRound_68 rfl (Or.inl fX12_344) (hK_317 hS) rfl ?_
      refine r_isub (c := (((n : Nat) : Int) - ((M.2.1 342 e) - 1))) (pc2 := 72) dX12_comesRound_71 rfl rfl ?_
      refine r_putI (z := (((n : Nat) : Int) - ((M.2.1 342 e) - 1))) (pc2 := 75) dX12_comesRound_72 rfl fX12_347 (w12_41 _) (hK_317 hS) (by decide) ?_
      refine r_iconst (pc2 := 76) dX12_comesRound_75 rfl ?_
      refine r_iretz dX12_comesRound_76 rfl (by omega) ?_
      rcases hor with q | ⟨i, q2, q3, q4⟩
      · rw [occM_pos b_51] at q; cases q
      · have o1 := occM_some q2
        have o2 := hN.2.2.2.2.1 _ _ hcl q2
        rw [o1, show (i : Int) + 1 - 1 = (i : Int) by omega]
        exact hQ M _ 1 (i : Int) ((n : Int) - (i : Int)) (hR _ _ (Or.inl ⟨i, o2, ((hK i o2).key hc hkm).mp ⟨q3, q4⟩, rfl, rfl⟩)) hfr h317 ⟨_, h330⟩ (Or.inr ⟨rfl, rfl⟩)
