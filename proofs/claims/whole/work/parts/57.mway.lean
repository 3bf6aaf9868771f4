/-! the model's findWay (wishes field 45, wishAt 345, wishTo 346) -/
theorem trc_f {P H : Nat → Int} {n : Nat} (hP : ∀ j, 0 < j → j < n → P j < (j : Int)) : ∀ (f g w : Nat), w ≤ f → w ≤ g → w < n → trc P H f (w : Int) = trc P H g (w : Int) := by
  intro f
  induction f with
  | zero => intro g w h1 h2 h3; rw [trc_0 (by omega), trc_0 (by omega)]
  | succ f ih =>
    intro g w h1 h2 h3
    by_cases h0 : w = 0
    · subst h0; rw [trc_0 (by omega), trc_0 (by omega)]
    · obtain ⟨g2, rfl⟩ : ∃ g2, g = g2 + 1 := ⟨g - 1, by omega⟩
      rw [trc_s (by omega), trc_s (by omega), Int.toNat_natCast]
      have h5 := hP w (by omega) h3
      by_cases h6 : P w ≤ 0
      · rw [trc_0 h6, trc_0 h6]
      · have := ih g2 (P w).toNat (by omega) (by omega) (by omega)
        rw [show (((P w).toNat : Nat) : Int) = P w by omega] at this
        rw [this]
theorem trc_new {P H : Nat → Int} {n i h : Nat} (hP : ∀ j, 0 < j → j < n → P j < (j : Int)) (hi : i < n) : trc (va_up P n (i : Int)) (va_up H n (h : Int)) n (n : Int) = trc P H i (i : Int) ++ [(h : Int)] := by
  obtain ⟨m, rfl⟩ : ∃ m, n = m + 1 := ⟨n - 1, by omega⟩
  rw [trc_s (by omega), Int.toNat_natCast, up_at, up_at, trc_up hi hP, trc_f hP m i i (by omega) (by omega) hi]

set_option maxHeartbeats 4000000 in
theorem c_X12_showsSides {d : Nat} {M : pM} {q : Nat} {z : Int} (hS : sOk M.1) (hq : q < 156) (hz : M.2.1 328 q = z) (hr : 0 ≤ z ∧ z ≤ 9) : Ct (d + 1) 0 0 yX12_showsSides [.ref 317, .int (iI ((q : Nat) : Int))] M (fun v M2 => v = some (.int (iI (if z = 4 ∨ z = 9 then 1 else 0))) ∧ M2 = M) := by
  refine ct_in (d := d) kX12_showsSides rfl (by decide) (Nat.le_of_ble_eq_true rfl) (by decide) ?_
  show Go (Ct d) _ yX12_showsSides cX12_showsSides (some .boolean) 0 0 0 [some (.ref 317), some (.int (iI ((q : Nat) : Int)))] [] M
  refine r_aload0 (pc2 := 1) dX12_showsSides_0 rfl ?_
  refine r_getR (pc2 := 4) dX12_showsSides_1 rfl fX12_86 (hK_317 hS) (hR_317_17 hS) ?_
  refine r_iload1 (pc2 := 5) dX12_showsSides_4 rfl ?_
  refine r_iald (z := z) (pc2 := 6) dX12_showsSides_5 rfl (hK_328 hS) q rfl (by omega) hz ?_
  refine r_iconst (pc2 := 7) dX12_showsSides_6 rfl ?_
  refine r_iceq (tgt := 21) (pc2 := 10) dX12_showsSides_7 rfl (by decide) ⟨by omega, by omega⟩ ⟨by omega, by omega⟩ (fun b_7 => ?_) (fun b_7 => ?_)
  · refine r_iconst (pc2 := 22) dX12_showsSides_21 rfl ?_
    refine r_goto (tgt := 26) dX12_showsSides_22 (by decide) ?_
    refine r_iretz dX12_showsSides_26 rfl (by omega) ?_
    exact ⟨by first | rw [if_pos (by omega)] | rw [if_neg (by omega)], rfl⟩
  · refine r_aload0 (pc2 := 11) dX12_showsSides_10 rfl ?_
    refine r_getR (pc2 := 14) dX12_showsSides_11 rfl fX12_86 (hK_317 hS) (hR_317_17 hS) ?_
    refine r_iload1 (pc2 := 15) dX12_showsSides_14 rfl ?_
    refine r_iald (z := z) (pc2 := 16) dX12_showsSides_15 rfl (hK_328 hS) q rfl (by omega) hz ?_
    refine r_bipush (pc2 := 18) dX12_showsSides_16 rfl (by decide) (by decide) ?_
    refine r_icne (tgt := 25) (pc2 := 21) dX12_showsSides_18 rfl (by decide) ⟨by omega, by omega⟩ ⟨by omega, by omega⟩ (fun b_18 => ?_) (fun b_18 => ?_)
    · refine r_iconst (pc2 := 26) dX12_showsSides_25 rfl ?_
      refine r_iretz dX12_showsSides_26 rfl (by omega) ?_
      exact ⟨by first | rw [if_pos (by omega)] | rw [if_neg (by omega)], rfl⟩
    · refine r_iconst (pc2 := 22) dX12_showsSides_21 rfl ?_
      refine r_goto (tgt := 26) dX12_showsSides_22 (by decide) ?_
      refine r_iretz dX12_showsSides_26 rfl (by omega) ?_
      exact ⟨by first | rw [if_pos (by omega)] | rw [if_neg (by omega)], rfl⟩
set_option maxHeartbeats 4000000 in
theorem lp_X12_isWished {d : Nat} {Q : pQ} {n : Nat} {W sh : Nat → Int} {M : pM} (hS : sOk M.1) (hn : M.2.1 317 45 = (n : Int)) (hW : WL n (M.2.1 345) (M.2.1 346) W) (hsh : ∀ p, p < 156 → M.2.1 330 (156 * 26 + p) = sh p ∧ 0 ≤ sh p ∧ sh p ≤ 9)
    (hQ1 : wIs W sh → Q (some (.int (iI 1))) M) (hQ2 : ¬ wIs W sh → Q (some (.int (iI 0))) M) :
    ∀ (m k : Nat) (z : Int), k + m = n → (z = 0 ∨ z = 1) → (z = 1 ↔ ∀ j, j < k → sh (M.2.1 345 j).toNat = M.2.1 346 j) →
      Go (Ct d) Q yX12_isWished cX12_isWished (some .boolean) 0 0 4 [some (.ref 317), some (.int (iI z)), some (.int (iI ((k : Nat) : Int)))] [] M := by
  have hn12 := hW.1
  intro m
  induction m with
  | zero =>
    intro k z hm hz hi
    obtain rfl : k = n := by omega
    refine r_iload2 (pc2 := 5) dX12_isWished_4 rfl ?_
    refine r_aload0 (pc2 := 6) dX12_isWished_5 rfl ?_
    refine r_getI (z := ((k : Nat) : Int)) (pc2 := 9) dX12_isWished_6 rfl (Or.inl fX12_376) (hK_317 hS) hn ?_
    refine r_icge (tgt := 52) (pc2 := 12) dX12_isWished_9 rfl (by decide) ⟨by omega, by omega⟩ ⟨by omega, by omega⟩ (fun b_9 => ?_) (fun b_9 => ?_)
    · refine r_iload1 (pc2 := 53) dX12_isWished_52 rfl ?_
      refine r_iretz dX12_isWished_53 rfl (by omega) ?_
      rcases hz with hz | hz
      · subst hz; exact hQ2 (fun q => absurd (hi.mpr (hW.is.mp q)) (by decide))
      · subst hz; exact hQ1 (hW.is.mpr (hi.mp rfl))
    · exact absurd b_9 (by omega)
  | succ m ih =>
    intro k z hm hz hi
    have hw := hW.2.1 k (by omega)
    have hs := hsh (M.2.1 345 k).toNat (by omega)
    have hr : M.2.1 330 (4056 + (M.2.1 345 k).toNat) = sh (M.2.1 345 k).toNat := by rw [show 4056 + (M.2.1 345 k).toNat = 156 * 26 + (M.2.1 345 k).toNat by omega]; exact hs.1
    refine r_iload2 (pc2 := 5) dX12_isWished_4 rfl ?_
    refine r_aload0 (pc2 := 6) dX12_isWished_5 rfl ?_
    refine r_getI (z := ((n : Nat) : Int)) (pc2 := 9) dX12_isWished_6 rfl (Or.inl fX12_376) (hK_317 hS) hn ?_
    refine r_icge (tgt := 52) (pc2 := 12) dX12_isWished_9 rfl (by decide) ⟨by omega, by omega⟩ ⟨by omega, by omega⟩ (fun b_9 => ?_) (fun b_9 => ?_)
    · refine r_iload1 (pc2 := 53) dX12_isWished_52 rfl ?_
      refine r_iretz dX12_isWished_53 rfl (by omega) ?_
      exact absurd b_9 (by omega)
    · refine r_iload1 (pc2 := 13) dX12_isWished_12 rfl ?_
      refine r_ifeq (tgt := 44) (pc2 := 16) dX12_isWished_13 rfl (by decide) ⟨by omega, by omega⟩ (fun b_13 => ?_) (fun b_13 => ?_)
      · refine r_iconst (pc2 := 45) dX12_isWished_44 rfl ?_
        refine r_istore1 (pc2 := 46) dX12_isWished_45 rfl rfl ?_
        refine r_iinc2 (z := ((k + 1 : Nat) : Int)) (pc2 := 49) dX12_isWished_46 rfl (by omega) rfl ?_
        refine r_goto (tgt := 4) dX12_isWished_49 (by decide) ?_
        refine ih (k + 1) 0 (by omega) (Or.inl rfl) ⟨fun q => absurd q (by decide), fun q => ?_⟩
        have := hi.mpr (fun j hj => q j (by omega))
        omega
      · refine r_aload0 (pc2 := 17) dX12_isWished_16 rfl ?_
        refine r_getR (pc2 := 20) dX12_isWished_17 rfl fX12_92 (hK_317 hS) (hR_317_19 hS) ?_
        refine r_sipush (pc2 := 23) dX12_isWished_20 rfl (by decide) (by decide) ?_
        refine r_aload0 (pc2 := 24) dX12_isWished_23 rfl ?_
        refine r_getR (pc2 := 27) dX12_isWished_24 rfl fX12_138 (hK_317 hS) (hR_317_46 hS) ?_
        refine r_iload2 (pc2 := 28) dX12_isWished_27 rfl ?_
        refine r_iald (z := (M.2.1 345 k)) (pc2 := 29) dX12_isWished_28 rfl (hK_345 hS) k rfl (by omega) rfl ?_
        refine r_iadd (c := (4056 + (M.2.1 345 k))) (pc2 := 30) dX12_isWished_29 rfl rfl ?_
        refine r_iald (z := (sh (M.2.1 345 k).toNat)) (pc2 := 31) dX12_isWished_30 rfl (hK_330 hS) (4056 + (M.2.1 345 k).toNat) (by omega) (by omega) hr ?_
        refine r_aload0 (pc2 := 32) dX12_isWished_31 rfl ?_
        refine r_getR (pc2 := 35) dX12_isWished_32 rfl fX12_141 (hK_317 hS) (hR_317_47 hS) ?_
        refine r_iload2 (pc2 := 36) dX12_isWished_35 rfl ?_
        refine r_iald (z := (M.2.1 346 k)) (pc2 := 37) dX12_isWished_36 rfl (hK_346 hS) k rfl (by omega) rfl ?_
        refine r_icne (tgt := 44) (pc2 := 40) dX12_isWished_37 rfl (by decide) ⟨by omega, by omega⟩ ⟨by omega, by omega⟩ (fun b_37 => ?_) (fun b_37 => ?_)
        · refine r_iconst (pc2 := 45) dX12_isWished_44 rfl ?_
          refine r_istore1 (pc2 := 46) dX12_isWished_45 rfl rfl ?_
          refine r_iinc2 (z := ((k + 1 : Nat) : Int)) (pc2 := 49) dX12_isWished_46 rfl (by omega) rfl ?_
          refine r_goto (tgt := 4) dX12_isWished_49 (by decide) ?_
          refine ih (k + 1) 0 (by omega) (Or.inl rfl) ⟨fun q => absurd q (by decide), fun q => ?_⟩
          exact absurd (q k (by omega)) b_37
        · refine r_iconst (pc2 := 41) dX12_isWished_40 rfl ?_
          refine r_goto (tgt := 45) dX12_isWished_41 (by decide) ?_
          refine r_istore1 (pc2 := 46) dX12_isWished_45 rfl rfl ?_
          refine r_iinc2 (z := ((k + 1 : Nat) : Int)) (pc2 := 49) dX12_isWished_46 rfl (by omega) rfl ?_
          refine r_goto (tgt := 4) dX12_isWished_49 (by decide) ?_
          refine ih (k + 1) 1 (by omega) (Or.inr rfl) ⟨fun _ j hj => ?_, fun _ => rfl⟩
          by_cases u : j = k
          · subst u; omega
          · exact hi.mp (by omega) j (by omega)
set_option maxHeartbeats 4000000 in
theorem c_X12_isWished {d : Nat} {M : pM} {n : Nat} {W sh : Nat → Int} (hS : sOk M.1) (hn : M.2.1 317 45 = (n : Int)) (hW : WL n (M.2.1 345) (M.2.1 346) W) (hsh : ∀ p, p < 156 → M.2.1 330 (156 * 26 + p) = sh p ∧ 0 ≤ sh p ∧ sh p ≤ 9) : Ct (d + 1) 0 0 yX12_isWished [.ref 317] M (fun v M2 => M2 = M ∧ (wIs W sh ∧ v = some (.int (iI 1)) ∨ ¬ wIs W sh ∧ v = some (.int (iI 0)))) := by
  refine ct_in (d := d) kX12_isWished rfl (by decide) (Nat.le_of_ble_eq_true rfl) (by decide) ?_
  show Go (Ct d) _ yX12_isWished cX12_isWished (some .boolean) 0 0 0 [some (.ref 317), none, none] [] M
  refine r_iconst (pc2 := 1) dX12_isWished_0 rfl ?_
  refine r_istore1 (pc2 := 2) dX12_isWished_1 rfl rfl ?_
  refine r_iconst (pc2 := 3) dX12_isWished_2 rfl ?_
  refine r_istore2 (pc2 := 4) dX12_isWished_3 rfl rfl ?_
  exact lp_X12_isWished hS hn hW hsh (fun q => ⟨rfl, Or.inl ⟨q, rfl⟩⟩) (fun q => ⟨rfl, Or.inr ⟨q, rfl⟩⟩) n 0 1 (by omega) (Or.inr rfl) ⟨fun _ j hj => by omega, fun _ => rfl⟩
def KV (D : bD) (k : Nat → Int) (v w : Int64) : Prop := v = lN (cdN D.1.1 k 156) ∧ w = 0 ∧ bK D k
theorem KV.key {D : bD} {k k2 : Nat → Int} {v w v2 w2 : Int64} (hD : bOk D) (h : KV D k v w) (h2 : KV D k2 v2 w2) : (v = v2 ∧ w = w2) ↔ k = k2 := by
  obtain ⟨rfl, rfl, a3⟩ := h
  obtain ⟨rfl, rfl, b3⟩ := h2
  rw [cdN_key hD.2.2 a3 b3]
  exact ⟨fun q => q.1, fun q => ⟨q, rfl⟩⟩
theorem bK_9 {D : bD} {sh : Nat → Int} (h : bK D sh) : ∀ p, p < 156 → 0 ≤ sh p ∧ sh p ≤ 9 := fun p hp => (h.1 p hp).2.2.1
theorem WL.fr {n : Nat} {W : Nat → Int} {l : List Nat} {M M2 : pM} {a b : Nat} (h : WL n (M.2.1 a) (M.2.1 b) W) (hf : fr l M M2) (ha : a ∉ l) (hb : b ∉ l) : WL n (M2.2.1 a) (M2.2.1 b) W := by rw [hf.i ha, hf.i hb]; exact h
set_option maxHeartbeats 8000000 in
theorem lp_X12_findWay {d : Nat} {Q : pQ} {nw : Nat} {W : Nat → Int} {D : bD} {F : Int × (Nat → Int)} (M0 : pM) (hS0 : sOk M0.1) (hB0 : MS M0 26 0 D) (hD : bOk D) (hw0 : M0.2.1 317 44 = -1) (hnw0 : M0.2.1 317 45 = (nw : Int)) (hW0 : WL nw (M0.2.1 345) (M0.2.1 346) W)
    (hQ : ∀ M M2, frU M0 M → fr [344] (pI M 317 44 F.1) M2 → (∀ j : Nat, (j : Int) < F.1 → M2.2.1 344 j = F.2 j) → Q none M2) :
    ∀ (m i h n : Nat) (K : Nat → (Nat → Int)) (P H : Nat → Int) (A B : Nat → Int64) (M : pM) (s2 : Nat → Int) (l4 l5 : Option Value), 5 * i + h + m = 15000 → i < n → h ≤ 4 → frU M0 M → TN M n A B → n ≤ 3000 → (∀ j, j < n → KV D (K j) (A j) (B j)) → PHo n P → (∀ j, j < n → M.2.1 340 j = P j ∧ M.2.1 341 j = H j) → bK D s2 → (∀ p, p < 156 → M.2.1 330 (156 * 26 + p) = s2 p) → bfs (fun _ _ => False) (wyN D) (wIs W) (-1) m i h n K P H = F →
      Go (Ct (d + 3)) Q yX12_findWay cX12_findWay none 0 0 95 [some (.ref 317), some (.int (iI 1)), some (.int (iI ((i : Nat) : Int))), some (.int (iI ((h : Nat) : Int))), l4, l5] [] M := by
  intro m
  induction m with
  | zero => intro i h n K P H A B M s2 l4 l5 hm hin hh hfr hN hn3; omega
  | succ m ih =>
    intro i h n K P H A B M s2 l4 l5 hm hin hh hfr hN hn3 hK hP hPe hs2 hsh hF
    have hS := hfr.1.ok hS0
    have hKi := hK i hin
    have hAi := hN.2.2.1 i hin
    have hA1 : M.2.2 338 i = lN (cdN D.1.1 (K i) 156) := hAi.1.trans hKi.1
    have hsz : M.2.1 317 38 = (n : Int) := hN.1
    have hw : M.2.1 317 44 = -1 := (hfr.2.1 44 (by decide)).trans hw0
    by_cases h4 : h = 4
    · subst h4
      refine r_iload3 (pc2 := 96) dX12_findWay_95 rfl ?_
      refine r_iconst (pc2 := 97) dX12_findWay_96 rfl ?_
      refine r_icge (tgt := 184) (pc2 := 100) dX12_findWay_97 rfl (by decide) ⟨by omega, by omega⟩ ⟨by omega, by omega⟩ (fun _ => ?_) (fun h9 => absurd h9 (by decide))
      refine r_iinc2 (z := ((i + 1 : Nat) : Int)) (pc2 := 187) dX12_findWay_184 rfl (by omega) rfl ?_
      refine r_goto (tgt := 85) dX12_findWay_187 (by decide) ?_
      refine r_iload2 (pc2 := 86) dX12_findWay_85 rfl ?_
      refine r_aload0 (pc2 := 87) dX12_findWay_86 rfl ?_
      refine r_getI (z := ((n : Nat) : Int)) (pc2 := 90) dX12_findWay_87 rfl (Or.inl fX12_324) (hK_317 hS) hsz ?_
      refine r_icge (tgt := 190) (pc2 := 93) dX12_findWay_90 rfl (by decide) ⟨by omega, by omega⟩ ⟨by omega, by omega⟩ (fun b_90 => ?_) (fun b_90 => ?_)
      · refine r_ret dX12_findWay_190 rfl ?_
        rw [bfs_end rfl (by omega)] at hF
        subst hF
        exact hQ M M hfr (by rw [pI_self hw]; exact fr.rf) (fun j hj => absurd hj (by show ¬ (j : Int) < -1; omega))
      · refine r_iconst (pc2 := 94) dX12_findWay_93 rfl ?_
        refine r_istore3 (pc2 := 95) dX12_findWay_94 rfl rfl ?_
        rw [bfs_row rfl (by omega)] at hF
        exact ih (i + 1) 0 n K P H A B M s2 l4 l5 (by omega) (by omega) (by omega) hfr hN hn3 hK hP hPe hs2 hsh hF
    · have hh4 : h < 4 := by omega
      have hd1 := bH_K (st := -2) hD hh4 hKi.2.2
      have hA2 : ¬ (fun (_ : Nat → Int) (_ : Nat) => False) (K i) h := fun q => q
      refine r_iload3 (pc2 := 96) dX12_findWay_95 rfl ?_
      refine r_iconst (pc2 := 97) dX12_findWay_96 rfl ?_
      refine r_icge (tgt := 184) (pc2 := 100) dX12_findWay_97 rfl (by decide) ⟨by omega, by omega⟩ ⟨by omega, by omega⟩ (fun b_97 => ?_) (fun b_97 => ?_)
      · refine r_iinc2 (z := (((i : Nat) : Int) + 1)) (pc2 := 187) dX12_findWay_184 rfl rfl rfl ?_
        refine r_goto (tgt := 85) dX12_findWay_187 (by decide) ?_
        refine r_iload2 (pc2 := 86) dX12_findWay_85 rfl ?_
        refine r_aload0 (pc2 := 87) dX12_findWay_86 rfl ?_
        refine r_getI (z := (M.2.1 317 38)) (pc2 := 90) dX12_findWay_87 rfl (Or.inl fX12_324) (hK_317 hS) rfl ?_
        refine r_icge (tgt := 190) (pc2 := 93) dX12_findWay_90 rfl (by decide) ⟨by omega, by omega⟩ ⟨by omega, by omega⟩ (fun b_90 => ?_) (fun b_90 => ?_)
        · refine r_ret dX12_findWay_190 rfl ?_
          exact absurd b_97 (by omega)
        · refine r_iconst (pc2 := 94) dX12_findWay_93 rfl ?_
          refine r_istore3 (pc2 := 95) dX12_findWay_94 rfl rfl ?_
          exact absurd b_97 (by omega)
      · refine r_aload0 (pc2 := 101) dX12_findWay_100 rfl ?_
        refine r_bipush (pc2 := 103) dX12_findWay_101 rfl (by decide) (by decide) ?_
        refine r_aload0 (pc2 := 104) dX12_findWay_103 rfl ?_
        refine r_getR (pc2 := 107) dX12_findWay_104 rfl fX12_116 (hK_317 hS) (hR_317_34 hS) ?_
        refine r_iload2 (pc2 := 108) dX12_findWay_107 rfl ?_
        refine r_lald (z := (lN (cdN D.1.1 (K i) 156))) (pc2 := 109) dX12_findWay_108 rfl (hK_338 hS) i rfl (by omega) hA1 ?_
        refine r_cv2 (pc2 := 112) dX12_findWay_109 rfl vX12_363 (hK_317 hS) (by decide) (MS_uncode (d := d + 1) (i := 26) (s := 0) (sh := K i) (s2 := s2) (hB0.fu hfr) hS (by decide) hD hKi.2.2 hs2 hsh) ?_
        rintro _ M5 ⟨rfl, f5, e5⟩
        have hf5 : frU M0 M5 := hfr.tr (frU.bd (by decide) f5 e5)
        have q5 : ∀ p, p < 156 → M5.2.1 330 (156 * 26 + p) = K i p := fun p hp => by rw [e5, sB_in hp]
        show Go (Ct (d + 3)) _ yX12_findWay cX12_findWay none 0 0 112 [some (.ref 317), some (.int (iI 1)), some (.int (iI ((i : Nat) : Int))), some (.int (iI ((h : Nat) : Int))), l4, l5] [] M5
        refine r_aload0 (pc2 := 113) dX12_findWay_112 rfl ?_
        refine r_bipush (pc2 := 115) dX12_findWay_113 rfl (by decide) (by decide) ?_
        refine r_iconst (pc2 := 116) dX12_findWay_115 rfl ?_
        refine r_iload3 (pc2 := 117) dX12_findWay_116 rfl ?_
        refine r_bipush (pc2 := 119) dX12_findWay_117 rfl (by decide) (by decide) ?_
        refine r_cv4 (pc2 := 122) dX12_findWay_119 rfl vX12_312 (hK_317 (hf5.1.ok hS0)) (by decide) (MS_drop (d := d) (i := 26) (s := 0) (st := -2) (hB0.fu hf5) (hf5.1.ok hS0) (by decide) (by decide) hD hh4 hKi.2.2 q5 (by omega)) ?_
        rintro _ M8 ⟨rfl, f8, e8⟩
        have hf8 : frU M0 M8 := hf5.tr (frU.bd (by decide) f8 e8)
        have q8 : ∀ p, p < 156 → M8.2.1 330 (156 * 26 + p) = wyN D (K i) h p := fun p hp => by rw [e8, sB_in hp]; rfl
        have ff8 : fr [330, 344] M M8 := (f5.tr f8).mono (by decide)
        have hN8 : TN M8 n A B := hN.of ff8
        have hsz8 : M8.2.1 317 38 = (n : Int) := hN8.1
        have hPe8 : ∀ j, j < n → M8.2.1 340 j = P j ∧ M8.2.1 341 j = H j := fun j hj => by rw [ff8.i (by decide), ff8.i (by decide)]; exact hPe j hj
        have hKn : KV D (wyN D (K i) h) (lN (cdN D.1.1 (wyN D (K i) h) 156)) 0 := ⟨rfl, rfl, hd1.1⟩
        show Go (Ct (d + 3)) _ yX12_findWay cX12_findWay none 0 0 122 [some (.ref 317), some (.int (iI 1)), some (.int (iI ((i : Nat) : Int))), some (.int (iI ((h : Nat) : Int))), l4, l5] [.int (iI (bH D (-2) (K i) h).1)] M8
        refine r_istore4 (pc2 := 124) dX12_findWay_122 rfl rfl ?_
        refine r_aload0 (pc2 := 125) dX12_findWay_124 rfl ?_
        refine r_getI (z := ((n : Nat) : Int)) (pc2 := 128) dX12_findWay_125 rfl (Or.inl fX12_324) (hK_317 (hf8.1.ok hS0)) hsz8 ?_
        refine r_istore5 (pc2 := 130) dX12_findWay_128 rfl rfl ?_
        refine r_aload0 (pc2 := 131) dX12_findWay_130 rfl ?_
        refine r_aload0 (pc2 := 132) dX12_findWay_131 rfl ?_
        refine r_bipush (pc2 := 134) dX12_findWay_132 rfl (by decide) (by decide) ?_
        refine r_cv1 (pc2 := 137) dX12_findWay_134 rfl vX12_340 (hK_317 (hf8.1.ok hS0)) (Nat.le_of_ble_eq_true rfl) (MS_code (d := d + 1) (i := 26) (s := 0) (sh := wyN D (K i) h) (hB0.fu hf8) (hf8.1.ok hS0) (by decide) hD hd1.1 q8) ?_
        rintro _ M9 ⟨rfl, h9⟩
        rw [h9]
        show Go (Ct (d + 3)) _ yX12_findWay cX12_findWay none 0 0 137 [some (.ref 317), some (.int (iI 1)), some (.int (iI ((i : Nat) : Int))), some (.int (iI ((h : Nat) : Int))), some (.int (iI (bH D (-2) (K i) h).1)), some (.int (iI ((n : Nat) : Int)))] [.long ((lN (cdN D.1.1 (wyN D (K i) h) 156))), .ref 317] M8
        refine r_lconst (pc2 := 138) dX12_findWay_137 rfl ?_
        refine r_iload2 (pc2 := 139) dX12_findWay_138 rfl ?_
        refine r_iload3 (pc2 := 140) dX12_findWay_139 rfl ?_
        refine r_sipush (pc2 := 143) dX12_findWay_140 rfl (by decide) (by decide) ?_
        refine r_cv5 (pc2 := 146) dX12_findWay_143 rfl vX12_350 (hK_317 (hf8.1.ok hS0)) (by decide) (c_X12_comesUp (d := d + 1) (n := n) (mo := 3000) (A := A) (B := B) (hf8.1.ok hS0) hN8 (by omega)) ?_
        have hex : (∃ j, j < n ∧ A j = lN (cdN D.1.1 (wyN D (K i) h) 156) ∧ B j = 0) ↔ ∃ j, j < n ∧ K j = wyN D (K i) h := ⟨fun ⟨j, j1, j2⟩ => ⟨j, j1, ((hK j j1).key hD hKn).mp j2⟩, fun ⟨j, j1, j2⟩ => ⟨j, j1, ((hK j j1).key hD hKn).mpr j2⟩⟩
        rintro _ M11 (⟨hyes, rfl, h11⟩ | ⟨hno, hfull, rfl, h11⟩ | ⟨hno, hroom, rfl, hN11, f11, e340, e341, e317⟩)
        · have hyes2 := hex.mp hyes
          clear hex
          rw [h11]
          show Go (Ct (d + 3)) _ yX12_findWay cX12_findWay none 0 0 146 [some (.ref 317), some (.int (iI 1)), some (.int (iI ((i : Nat) : Int))), some (.int (iI ((h : Nat) : Int))), some (.int (iI (bH D (-2) (K i) h).1)), some (.int (iI ((n : Nat) : Int)))] [.int (iI 1)] M8
          refine r_ifne (tgt := 150) (pc2 := 149) dX12_findWay_146 rfl (by decide) ⟨by omega, by omega⟩ (fun _ => ?_) (fun h9 => absurd h9 (by decide))
          refine r_aload0 (pc2 := 151) dX12_findWay_150 rfl ?_
          refine r_getI (z := ((n : Nat) : Int)) (pc2 := 154) dX12_findWay_151 rfl (Or.inl fX12_324) (hK_317 (hf8.1.ok hS0)) hsz8 ?_
          refine r_iload5 (pc2 := 156) dX12_findWay_154 rfl ?_
          refine r_icle (tgt := 178) (pc2 := 159) dX12_findWay_156 rfl (by decide) ⟨by omega, by omega⟩ ⟨by omega, by omega⟩ (fun b_156 => ?_) (fun b_156 => ?_)
          · refine r_iinc3 (z := ((h + 1 : Nat) : Int)) (pc2 := 181) dX12_findWay_178 rfl (by omega) rfl ?_
            refine r_goto (tgt := 95) dX12_findWay_181 (by decide) ?_
            rw [bfs_old h4 hA2 hyes2] at hF
            exact ih i (h + 1) n K P H A B M8 _ _ _ (by omega) hin (by omega) hf8 hN8 hn3 hK hP hPe8 hd1.1 q8 hF
          · exact absurd b_156 (by omega)
        · have hno2 := fun q => hno (hex.mpr q)
          clear hex hno
          rw [h11]
          show Go (Ct (d + 3)) _ yX12_findWay cX12_findWay none 0 0 146 [some (.ref 317), some (.int (iI 1)), some (.int (iI ((i : Nat) : Int))), some (.int (iI ((h : Nat) : Int))), some (.int (iI (bH D (-2) (K i) h).1)), some (.int (iI ((n : Nat) : Int)))] [.int (iI 0)] M8
          refine r_ifne (tgt := 150) (pc2 := 149) dX12_findWay_146 rfl (by decide) ⟨by omega, by omega⟩ (fun h9 => absurd h9 (by decide)) (fun _ => ?_)
          refine r_ret dX12_findWay_149 rfl ?_
          rw [bfs_full h4 hA2 hno2 (by omega)] at hF
          subst hF
          exact hQ M8 M8 hf8 (by rw [pI_self (by rw [hf8.2.1 44 (by decide)]; exact hw0)]; exact fr.rf) (fun j hj => absurd hj (by show ¬ (j : Int) < -1; omega))
        · have hno2 := fun q => hno (hex.mpr q)
          clear hex hno
          have hf11 : frU M0 M11 := hf8.tr (frU.cu f11 e317)
          have hsz11 : M11.2.1 317 38 = ((n + 1 : Nat) : Int) := hN11.1
          have q11 : ∀ p, p < 156 → M11.2.1 330 (156 * 26 + p) = wyN D (K i) h p := fun p hp => by rw [f11.i (by decide)]; exact q8 p hp
          have hPe11 : ∀ j, j < n + 1 → M11.2.1 340 j = va_up P n (i : Int) j ∧ M11.2.1 341 j = va_up H n (h : Int) j := fun j hj => by
            rw [e340, e341]
            by_cases u : j = n
            · subst u; rw [up_at, up_at, up_at, up_at]; exact ⟨rfl, rfl⟩
            · rw [up_ne u, up_ne u, up_ne u, up_ne u]; exact hPe8 j (by omega)
          show Go (Ct (d + 3)) _ yX12_findWay cX12_findWay none 0 0 146 [some (.ref 317), some (.int (iI 1)), some (.int (iI ((i : Nat) : Int))), some (.int (iI ((h : Nat) : Int))), some (.int (iI (bH D (-2) (K i) h).1)), some (.int (iI ((n : Nat) : Int)))] [.int (iI 1)] M11
          refine r_ifne (tgt := 150) (pc2 := 149) dX12_findWay_146 rfl (by decide) ⟨by omega, by omega⟩ (fun _ => ?_) (fun h9 => absurd h9 (by decide))
          refine r_aload0 (pc2 := 151) dX12_findWay_150 rfl ?_
          refine r_getI (z := (((n + 1) : Nat) : Int)) (pc2 := 154) dX12_findWay_151 rfl (Or.inl fX12_324) (hK_317 (hf11.1.ok hS0)) hsz11 ?_
          refine r_iload5 (pc2 := 156) dX12_findWay_154 rfl ?_
          refine r_icle (tgt := 178) (pc2 := 159) dX12_findWay_156 rfl (by decide) ⟨by omega, by omega⟩ ⟨by omega, by omega⟩ (fun b_156 => ?_) (fun b_156 => ?_)
          · refine r_iinc3 (z := ((h + 1 : Nat) : Int)) (pc2 := 181) dX12_findWay_178 rfl (by omega) rfl ?_
            refine r_goto (tgt := 95) dX12_findWay_181 (by decide) ?_
            exact absurd b_156 (by omega)
          · refine r_aload0 (pc2 := 160) dX12_findWay_159 rfl ?_
            refine r_cv0 (pc2 := 163) dX12_findWay_160 rfl vX12_388 (hK_317 (hf11.1.ok hS0)) (by decide) (c_X12_isWished (d := d + 2) (n := nw) (W := W) (sh := wyN D (K i) h) (hf11.1.ok hS0) (by rw [hf11.2.1 45 (by decide)]; exact hnw0) (hW0.fr hf11.1 (by decide) (by decide)) (fun q hq => ⟨q11 q hq, bK_9 hd1.1 q hq⟩)) ?_
            rintro _ M12 ⟨h12, ⟨hwi, rfl⟩ | ⟨hwi, rfl⟩⟩
            · rw [h12]
              show Go (Ct (d + 3)) _ yX12_findWay cX12_findWay none 0 0 163 [some (.ref 317), some (.int (iI 1)), some (.int (iI ((i : Nat) : Int))), some (.int (iI ((h : Nat) : Int))), some (.int (iI (bH D (-2) (K i) h).1)), some (.int (iI ((n : Nat) : Int)))] [.int (iI 1)] M11
              refine r_ifeq (tgt := 178) (pc2 := 166) dX12_findWay_163 rfl (by decide) ⟨by omega, by omega⟩ (fun h9 => absurd h9 (by decide)) (fun _ => ?_)
              refine r_aload0 (pc2 := 167) dX12_findWay_166 rfl ?_
              refine r_aload0 (pc2 := 168) dX12_findWay_167 rfl ?_
              refine r_getI (z := (((n + 1) : Nat) : Int)) (pc2 := 171) dX12_findWay_168 rfl (Or.inl fX12_324) (hK_317 (hf11.1.ok hS0)) hsz11 ?_
              refine r_iconst (pc2 := 172) dX12_findWay_171 rfl ?_
              refine r_isub (c := ((n : Nat) : Int)) (pc2 := 173) dX12_findWay_172 rfl (by omega) ?_
              refine r_iconst (pc2 := 174) dX12_findWay_173 rfl ?_
              refine r_cv2 (pc2 := 177) dX12_findWay_174 rfl vX12_367 (hK_317 (hf11.1.ok hS0)) (by decide) (c_X12_traces (d := d + 2) (n := n + 1) (s := n) (last := -1) (P := va_up P n (i : Int)) (H := va_up H n (h : Int)) (hf11.1.ok hS0) (by omega) (by omega) (hP.up hin).1 (hP.up hin).2 hPe11 ⟨by omega, by omega⟩) ?_
              rintro _ M13 ⟨rfl, f13, e13⟩
              show Go (Ct (d + 3)) _ yX12_findWay cX12_findWay none 0 0 177 [some (.ref 317), some (.int (iI 1)), some (.int (iI ((i : Nat) : Int))), some (.int (iI ((h : Nat) : Int))), some (.int (iI (bH D (-2) (K i) h).1)), some (.int (iI ((n : Nat) : Int)))] [] M13
              refine r_ret dX12_findWay_177 rfl ?_
              rw [bfs_B h4 hA2 hno2 (by omega) hwi] at hF
              have et := trc_new (P := P) (H := H) (n := n) (i := i) (h := h) (fun j j1 j2 => (hP.2 j j1 j2).2) hin
              have el : tLen (va_up P n (i : Int)) (va_up H n (h : Int)) n (-1) = (trc P H i (i : Int)).length + 1 := by rw [tLen, if_pos (by decide), et, List.length_append]; rfl
              rw [el] at f13 e13
              subst hF
              refine hQ M11 M13 hf11 f13 (fun j hj => ?_)
              have hj2 : j < (trc P H i (i : Int)).length + 1 := Int.ofNat_lt.mp hj
              rw [e13 j hj2, trp_in (by rw [et, List.length_append]; exact hj2), et]
              rfl
            · rw [h12]
              show Go (Ct (d + 3)) _ yX12_findWay cX12_findWay none 0 0 163 [some (.ref 317), some (.int (iI 1)), some (.int (iI ((i : Nat) : Int))), some (.int (iI ((h : Nat) : Int))), some (.int (iI (bH D (-2) (K i) h).1)), some (.int (iI ((n : Nat) : Int)))] [.int (iI 0)] M11
              refine r_ifeq (tgt := 178) (pc2 := 166) dX12_findWay_163 rfl (by decide) ⟨by omega, by omega⟩ (fun _ => ?_) (fun h9 => absurd h9 (by decide))
              refine r_iinc3 (z := ((h + 1 : Nat) : Int)) (pc2 := 181) dX12_findWay_178 rfl (by omega) rfl ?_
              refine r_goto (tgt := 95) dX12_findWay_181 (by decide) ?_
              rw [bfs_new h4 hA2 hno2 (by omega) hwi] at hF
              refine ih i (h + 1) (n + 1) _ _ _ _ _ M11 _ _ _ (by omega) (by omega) (by omega) hf11 hN11 (by omega) (fun j hj => ?_) (hP.up hin) hPe11 hd1.1 q11 hF
              by_cases u : j = n
              · subst u; rw [up_at, up_at, up_at]; exact hKn
              · rw [up_ne u, up_ne u, up_ne u]; exact hK j (by omega)
set_option maxHeartbeats 4000000 in
theorem lp0_X12_findWay {d : Nat} {Q : pQ} {n : Nat} {W pc : Nat → Int} {M : pM} {l2 l3 l4 l5 : Option Value} (hS : sOk M.1) (hn : M.2.1 317 45 = (n : Int)) (hW : WL n (M.2.1 345) (M.2.1 346) W) (hpc : ∀ p, p < 156 → M.2.1 328 p = pc p ∧ 0 ≤ pc p ∧ pc p ≤ 9)
    (hQ1 : ¬ wOk W pc → Q none M) (hQ2 : wOk W pc → Go (Ct (d + 3)) Q yX12_findWay cX12_findWay none 0 0 35 [some (.ref 317), some (.int (iI ((n : Nat) : Int))), l2, l3, l4, l5] [] M) :
    ∀ (m i : Nat), i + m = n → (∀ k, k < i → pc (M.2.1 345 k).toNat = 4 ∨ pc (M.2.1 345 k).toNat = 9) →
      Go (Ct (d + 3)) Q yX12_findWay cX12_findWay none 0 0 7 [some (.ref 317), some (.int (iI ((i : Nat) : Int))), l2, l3, l4, l5] [] M := by
  have hn12 := hW.1
  intro m
  induction m with
  | zero =>
    intro i hm hi
    obtain rfl : i = n := by omega
    refine r_iload1 (pc2 := 8) dX12_findWay_7 rfl ?_
    refine r_aload0 (pc2 := 9) dX12_findWay_8 rfl ?_
    refine r_getI (z := ((i : Nat) : Int)) (pc2 := 12) dX12_findWay_9 rfl (Or.inl fX12_376) (hK_317 hS) hn ?_
    refine r_icge (tgt := 35) (pc2 := 15) dX12_findWay_12 rfl (by decide) ⟨by omega, by omega⟩ ⟨by omega, by omega⟩ (fun b_12 => ?_) (fun b_12 => ?_)
    · exact hQ2 (hW.ok.mpr hi)
    · exact absurd b_12 (by omega)
  | succ m ih =>
    intro i hm hi
    have hw := hW.2.1 i (by omega)
    have hz := hpc (M.2.1 345 i).toNat (by omega)
    have hcast : (((M.2.1 345 i).toNat : Nat) : Int) = M.2.1 345 i := by omega
    refine r_iload1 (pc2 := 8) dX12_findWay_7 rfl ?_
    refine r_aload0 (pc2 := 9) dX12_findWay_8 rfl ?_
    refine r_getI (z := ((n : Nat) : Int)) (pc2 := 12) dX12_findWay_9 rfl (Or.inl fX12_376) (hK_317 hS) hn ?_
    refine r_icge (tgt := 35) (pc2 := 15) dX12_findWay_12 rfl (by decide) ⟨by omega, by omega⟩ ⟨by omega, by omega⟩ (fun b_12 => ?_) (fun b_12 => ?_)
    · refine r_aload0 (pc2 := 36) dX12_findWay_35 rfl ?_
      refine r_iconst (pc2 := 37) dX12_findWay_36 rfl ?_
      refine r_bipush (pc2 := 39) dX12_findWay_37 rfl (by decide) (by decide) ?_
      exact absurd b_12 (by omega)
    · refine r_aload0 (pc2 := 16) dX12_findWay_15 rfl ?_
      refine r_aload0 (pc2 := 17) dX12_findWay_16 rfl ?_
      refine r_getR (pc2 := 20) dX12_findWay_17 rfl fX12_138 (hK_317 hS) (hR_317_46 hS) ?_
      refine r_iload1 (pc2 := 21) dX12_findWay_20 rfl ?_
      refine r_iald (z := (M.2.1 345 i)) (pc2 := 22) dX12_findWay_21 rfl (hK_345 hS) i rfl (by omega) rfl ?_
      refine r_cv1 (pc2 := 25) dX12_findWay_22 rfl vX12_385 (hK_317 hS) (by decide) (by rw [← hcast]; exact c_X12_showsSides (d := d + 2) (q := (M.2.1 345 i).toNat) (z := pc (M.2.1 345 i).toNat) hS (by omega) hz.1 hz.2) ?_
      by_cases ht : pc (M.2.1 345 i).toNat = 4 ∨ pc (M.2.1 345 i).toNat = 9
      · rintro _ M9 ⟨rfl, h9⟩
        rw [h9, if_pos ht]
        show Go (Ct (d + 3)) _ yX12_findWay cX12_findWay none 0 0 25 [some (.ref 317), some (.int (iI ((i : Nat) : Int))), l2, l3, l4, l5] [.int (iI 1)] M
        refine r_ifne (tgt := 29) (pc2 := 28) dX12_findWay_25 rfl (by decide) ⟨by omega, by omega⟩ (fun _ => ?_) (fun h9 => absurd h9 (by decide))
        refine r_iinc1 (z := ((i + 1 : Nat) : Int)) (pc2 := 32) dX12_findWay_29 rfl (by omega) rfl ?_
        refine r_goto (tgt := 7) dX12_findWay_32 (by decide) ?_
        refine ih (i + 1) (by omega) (fun k hk => ?_)
        by_cases u : k = i
        · subst u; exact ht
        · exact hi k (by omega)
      · rintro _ M9 ⟨rfl, h9⟩
        rw [h9, if_neg ht]
        show Go (Ct (d + 3)) _ yX12_findWay cX12_findWay none 0 0 25 [some (.ref 317), some (.int (iI ((i : Nat) : Int))), l2, l3, l4, l5] [.int (iI 0)] M
        refine r_ifne (tgt := 29) (pc2 := 28) dX12_findWay_25 rfl (by decide) ⟨by omega, by omega⟩ (fun h9 => absurd h9 (by decide)) (fun _ => ?_)
        refine r_ret dX12_findWay_28 rfl ?_
        exact hQ1 (fun q => ht (hW.ok.mp q i (by omega)))
