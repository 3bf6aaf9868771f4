/-! FEED: a sign more, eight signs -/
def sgOk (c : Int) : Prop := c = 10 ∨ (32 ≤ c ∧ c ≤ 126)
def ly1 (t : (Nat → Int) × Nat) (c : Int) : (Nat → Int) × Nat := if (c = 10 ∨ (32 ≤ c ∧ c ≤ 126)) ∧ t.2 < 1000 then (va_up t.1 t.2 c, t.2 + 1) else t
def lyN (v : Int64) : Nat → (Nat → Int) × Nat → (Nat → Int) × Nat
  | 0, t => t
  | k + 1, t => lyN v k (ly1 t (byt v k))
theorem ly1_le {t : (Nat → Int) × Nat} {c : Int} (h : t.2 ≤ 1000) : (ly1 t c).2 ≤ 1000 := by
  unfold ly1
  split
  · simp only; omega
  · exact h
theorem lyN_le {v : Int64} : ∀ (k : Nat) {t : (Nat → Int) × Nat}, t.2 ≤ 1000 → (lyN v k t).2 ≤ 1000
  | 0, _, h => h
  | k + 1, _, h => lyN_le k (ly1_le h)
set_option maxHeartbeats 4000000 in
theorem lp_X8_addEight {d : Nat} {Q : pQ} {v : Int64} : ∀ (k : Nat) (M : pM) (n : Nat) (x4 : Option Value), k ≤ 8 → sOk M.1 → M.2.1 3 5 = (n : Int) → n ≤ 1000 → (∀ M2, fr [3, 5] M M2 → M2.2.1 5 = (lyN v k (M.2.1 5, n)).1 → M2.2.1 3 = va_up (M.2.1 3) 5 (((lyN v k (M.2.1 5, n)).2 : Nat) : Int) → Q none M2) → Go (Ct d) Q yX8_addEight cX8_addEight none 0 0 3 [some (.ref 3), some (.long v), none, some (.int (iI (8 * (k : Int) - 8))), x4] [] M := by
  intro k
  induction k with
  | zero =>
    intro M n x4 hk hS hn hn2 hQ
    refine r_iload3 (pc2 := 4) dX8_addEight_3 rfl ?_
    refine r_iflt (tgt := 76) (pc2 := 7) dX8_addEight_4 rfl (by decide) ⟨by omega, by omega⟩ (fun b_4 => ?_) (fun b_4 => ?_)
    · refine r_ret dX8_addEight_76 rfl ?_
      exact hQ M fr.rf rfl (up_id hn).symm
    · exact absurd b_4 (by omega)
  | succ k ih =>
    intro M n x4 hk hS hn hn2 hQ
    have hb := byt_lt v k
    have e8 : 8 * ((k + 1 : Nat) : Int) - 8 = 8 * (k : Int) := by omega
    rw [e8]
    refine r_iload3 (pc2 := 4) dX8_addEight_3 rfl ?_
    refine r_iflt (tgt := 76) (pc2 := 7) dX8_addEight_4 rfl (by decide) ⟨by omega, by omega⟩ (fun b_4 => ?_) (fun b_4 => ?_)
    · refine r_ret dX8_addEight_76 rfl ?_
      exact absurd b_4 (by omega)
    · refine r_lload1 (pc2 := 8) dX8_addEight_7 rfl ?_
      refine r_iload3 (pc2 := 9) dX8_addEight_8 rfl ?_
      refine r_lushr (pc2 := 10) dX8_addEight_9 rfl ?_
      refine r_l2i (pc2 := 11) dX8_addEight_10 rfl ?_
      refine r_sipush (pc2 := 14) dX8_addEight_11 rfl (by decide) (by decide) ?_
      refine r_iand (pc2 := 15) dX8_addEight_14 rfl ?_
      rw [byt_u v (by omega)]
      refine r_istore4 (pc2 := 17) dX8_addEight_15 rfl rfl ?_
      refine r_iload4 (pc2 := 19) dX8_addEight_17 rfl ?_
      refine r_bipush (pc2 := 21) dX8_addEight_19 rfl (by decide) (by decide) ?_
      refine r_iceq (tgt := 38) (pc2 := 24) dX8_addEight_21 rfl (by decide) ⟨by omega, by omega⟩ ⟨by omega, by omega⟩ (fun b_21 => ?_) (fun b_21 => ?_)
      · refine r_aload0 (pc2 := 39) dX8_addEight_38 rfl ?_
        refine r_getI (z := ((n : Nat) : Int)) (pc2 := 42) dX8_addEight_39 rfl (Or.inl fX8_41) (hK_3 hS) hn ?_
        refine r_sipush (pc2 := 45) dX8_addEight_42 rfl (by decide) (by decide) ?_
        refine r_icge (tgt := 70) (pc2 := 48) dX8_addEight_45 rfl (by decide) ⟨by omega, by omega⟩ ⟨by omega, by omega⟩ (fun b_45 => ?_) (fun b_45 => ?_)
        · refine r_iinc3 (z := (8 * (k : Int) - 8)) (pc2 := 73) dX8_addEight_70 rfl (by omega) rfl ?_
          refine r_goto (tgt := 3) dX8_addEight_73 (by decide) ?_
          refine ih M n _ (by omega) hS hn hn2 (fun M2 h1 h2 h3 => hQ M2 h1 ?_ ?_)
          · rw [h2]; show _ = (lyN v k (ly1 (M.2.1 5, n) (byt v k))).1; rw [show ly1 (M.2.1 5, n) (byt v k) = (M.2.1 5, n) from if_neg (by omega)]
          · rw [h3]; show _ = va_up _ _ (((lyN v k (ly1 (M.2.1 5, n) (byt v k))).2 : Nat) : Int); rw [show ly1 (M.2.1 5, n) (byt v k) = (M.2.1 5, n) from if_neg (by omega)]
        · refine r_aload0 (pc2 := 49) dX8_addEight_48 rfl ?_
          refine r_getR (pc2 := 52) dX8_addEight_49 rfl fX8_15 (hK_3 hS) (hR_3_1 hS) ?_
          refine r_aload0 (pc2 := 53) dX8_addEight_52 rfl ?_
          refine r_getI (z := ((n : Nat) : Int)) (pc2 := 56) dX8_addEight_53 rfl (Or.inl fX8_41) (hK_3 hS) hn ?_
          refine r_iload4 (pc2 := 58) dX8_addEight_56 rfl ?_
          refine r_i2b (pc2 := 59) dX8_addEight_58 rfl (by omega) (by omega) ?_
          refine r_bast (z := (byt v k)) (pc2 := 60) dX8_addEight_59 rfl (hK_5 hS) (by decide) n rfl (by omega) ⟨by omega, by omega⟩ ?_
          refine r_aload0 (pc2 := 61) dX8_addEight_60 rfl ?_
          refine r_dup (pc2 := 62) dX8_addEight_61 rfl rfl ?_
          refine r_getI (z := ((n : Nat) : Int)) (pc2 := 65) dX8_addEight_62 rfl (Or.inl fX8_41) (hK_3 hS) hn ?_
          refine r_iconst (pc2 := 66) dX8_addEight_65 rfl ?_
          refine r_iadd (c := (((n : Nat) : Int) + 1)) (pc2 := 67) dX8_addEight_66 rfl rfl ?_
          refine r_putI (z := (((n : Nat) : Int) + 1)) (pc2 := 70) dX8_addEight_67 rfl fX8_41 (w8_5 _) (hK_3 hS) (by decide) ?_
          refine r_iinc3 (z := (8 * (k : Int) - 8)) (pc2 := 73) dX8_addEight_70 rfl (by omega) rfl ?_
          refine r_goto (tgt := 3) dX8_addEight_73 (by decide) ?_
          have ea : (pI (pI M 5 n (byt v k)) 3 5 (((n : Nat) : Int) + 1)).2.1 5 = va_up (M.2.1 5) n (byt v k) := by rw [pI_ne (by decide), pI_eq]
          have et : (pI (pI M 5 n (byt v k)) 3 5 (((n : Nat) : Int) + 1)).2.1 3 = va_up (M.2.1 3) 5 ((n : Int) + 1) := by rw [pI_eq, pI_ne (by decide)]
          have e1 : ly1 (M.2.1 5, n) (byt v k) = (va_up (M.2.1 5) n (byt v k), n + 1) := if_pos ⟨by omega, by show n < 1000; omega⟩
          refine ih (pI (pI M 5 n (byt v k)) 3 5 (((n : Nat) : Int) + 1)) (n + 1) _ (by omega) hS (by rw [et, up_at]; omega) (by omega) (fun M2 h1 h2 h3 => hQ M2 ((fr.I (fr.I fr.rf (by decide)) (by decide)).tr h1) ?_ ?_)
          · rw [h2, ea]; show _ = (lyN v k (ly1 (M.2.1 5, n) (byt v k))).1; rw [e1]
          · rw [h3, ea, et, up_up]; show _ = va_up _ _ (((lyN v k (ly1 (M.2.1 5, n) (byt v k))).2 : Nat) : Int); rw [e1]
      · refine r_iload4 (pc2 := 26) dX8_addEight_24 rfl ?_
        refine r_bipush (pc2 := 28) dX8_addEight_26 rfl (by decide) (by decide) ?_
        refine r_iclt (tgt := 70) (pc2 := 31) dX8_addEight_28 rfl (by decide) ⟨by omega, by omega⟩ ⟨by omega, by omega⟩ (fun b_28 => ?_) (fun b_28 => ?_)
        · refine r_iinc3 (z := (8 * (k : Int) - 8)) (pc2 := 73) dX8_addEight_70 rfl (by omega) rfl ?_
          refine r_goto (tgt := 3) dX8_addEight_73 (by decide) ?_
          refine ih M n _ (by omega) hS hn hn2 (fun M2 h1 h2 h3 => hQ M2 h1 ?_ ?_)
          · rw [h2]; show _ = (lyN v k (ly1 (M.2.1 5, n) (byt v k))).1; rw [show ly1 (M.2.1 5, n) (byt v k) = (M.2.1 5, n) from if_neg (by omega)]
          · rw [h3]; show _ = va_up _ _ (((lyN v k (ly1 (M.2.1 5, n) (byt v k))).2 : Nat) : Int); rw [show ly1 (M.2.1 5, n) (byt v k) = (M.2.1 5, n) from if_neg (by omega)]
        · refine r_iload4 (pc2 := 33) dX8_addEight_31 rfl ?_
          refine r_bipush (pc2 := 35) dX8_addEight_33 rfl (by decide) (by decide) ?_
          refine r_icgt (tgt := 70) (pc2 := 38) dX8_addEight_35 rfl (by decide) ⟨by omega, by omega⟩ ⟨by omega, by omega⟩ (fun b_35 => ?_) (fun b_35 => ?_)
          · refine r_iinc3 (z := (8 * (k : Int) - 8)) (pc2 := 73) dX8_addEight_70 rfl (by omega) rfl ?_
            refine r_goto (tgt := 3) dX8_addEight_73 (by decide) ?_
            refine ih M n _ (by omega) hS hn hn2 (fun M2 h1 h2 h3 => hQ M2 h1 ?_ ?_)
            · rw [h2]; show _ = (lyN v k (ly1 (M.2.1 5, n) (byt v k))).1; rw [show ly1 (M.2.1 5, n) (byt v k) = (M.2.1 5, n) from if_neg (by omega)]
            · rw [h3]; show _ = va_up _ _ (((lyN v k (ly1 (M.2.1 5, n) (byt v k))).2 : Nat) : Int); rw [show ly1 (M.2.1 5, n) (byt v k) = (M.2.1 5, n) from if_neg (by omega)]
          · refine r_aload0 (pc2 := 39) dX8_addEight_38 rfl ?_
            refine r_getI (z := ((n : Nat) : Int)) (pc2 := 42) dX8_addEight_39 rfl (Or.inl fX8_41) (hK_3 hS) hn ?_
            refine r_sipush (pc2 := 45) dX8_addEight_42 rfl (by decide) (by decide) ?_
            refine r_icge (tgt := 70) (pc2 := 48) dX8_addEight_45 rfl (by decide) ⟨by omega, by omega⟩ ⟨by omega, by omega⟩ (fun b_45 => ?_) (fun b_45 => ?_)
            · refine r_iinc3 (z := (8 * (k : Int) - 8)) (pc2 := 73) dX8_addEight_70 rfl (by omega) rfl ?_
              refine r_goto (tgt := 3) dX8_addEight_73 (by decide) ?_
              refine ih M n _ (by omega) hS hn hn2 (fun M2 h1 h2 h3 => hQ M2 h1 ?_ ?_)
              · rw [h2]; show _ = (lyN v k (ly1 (M.2.1 5, n) (byt v k))).1; rw [show ly1 (M.2.1 5, n) (byt v k) = (M.2.1 5, n) from if_neg (by omega)]
              · rw [h3]; show _ = va_up _ _ (((lyN v k (ly1 (M.2.1 5, n) (byt v k))).2 : Nat) : Int); rw [show ly1 (M.2.1 5, n) (byt v k) = (M.2.1 5, n) from if_neg (by omega)]
            · refine r_aload0 (pc2 := 49) dX8_addEight_48 rfl ?_
              refine r_getR (pc2 := 52) dX8_addEight_49 rfl fX8_15 (hK_3 hS) (hR_3_1 hS) ?_
              refine r_aload0 (pc2 := 53) dX8_addEight_52 rfl ?_
              refine r_getI (z := ((n : Nat) : Int)) (pc2 := 56) dX8_addEight_53 rfl (Or.inl fX8_41) (hK_3 hS) hn ?_
              refine r_iload4 (pc2 := 58) dX8_addEight_56 rfl ?_
              refine r_i2b (pc2 := 59) dX8_addEight_58 rfl (by omega) (by omega) ?_
              refine r_bast (z := (byt v k)) (pc2 := 60) dX8_addEight_59 rfl (hK_5 hS) (by decide) n rfl (by omega) ⟨by omega, by omega⟩ ?_
              refine r_aload0 (pc2 := 61) dX8_addEight_60 rfl ?_
              refine r_dup (pc2 := 62) dX8_addEight_61 rfl rfl ?_
              refine r_getI (z := ((n : Nat) : Int)) (pc2 := 65) dX8_addEight_62 rfl (Or.inl fX8_41) (hK_3 hS) hn ?_
              refine r_iconst (pc2 := 66) dX8_addEight_65 rfl ?_
              refine r_iadd (c := (((n : Nat) : Int) + 1)) (pc2 := 67) dX8_addEight_66 rfl rfl ?_
              refine r_putI (z := (((n : Nat) : Int) + 1)) (pc2 := 70) dX8_addEight_67 rfl fX8_41 (w8_5 _) (hK_3 hS) (by decide) ?_
              refine r_iinc3 (z := (8 * (k : Int) - 8)) (pc2 := 73) dX8_addEight_70 rfl (by omega) rfl ?_
              refine r_goto (tgt := 3) dX8_addEight_73 (by decide) ?_
              have ea : (pI (pI M 5 n (byt v k)) 3 5 (((n : Nat) : Int) + 1)).2.1 5 = va_up (M.2.1 5) n (byt v k) := by rw [pI_ne (by decide), pI_eq]
              have et : (pI (pI M 5 n (byt v k)) 3 5 (((n : Nat) : Int) + 1)).2.1 3 = va_up (M.2.1 3) 5 ((n : Int) + 1) := by rw [pI_eq, pI_ne (by decide)]
              have e1 : ly1 (M.2.1 5, n) (byt v k) = (va_up (M.2.1 5) n (byt v k), n + 1) := if_pos ⟨by omega, by show n < 1000; omega⟩
              refine ih (pI (pI M 5 n (byt v k)) 3 5 (((n : Nat) : Int) + 1)) (n + 1) _ (by omega) hS (by rw [et, up_at]; omega) (by omega) (fun M2 h1 h2 h3 => hQ M2 ((fr.I (fr.I fr.rf (by decide)) (by decide)).tr h1) ?_ ?_)
              · rw [h2, ea]; show _ = (lyN v k (ly1 (M.2.1 5, n) (byt v k))).1; rw [e1]
              · rw [h3, ea, et, up_up]; show _ = va_up _ _ (((lyN v k (ly1 (M.2.1 5, n) (byt v k))).2 : Nat) : Int); rw [e1]
set_option maxHeartbeats 4000000 in
theorem c_X8_addEight {d : Nat} {M : pM} {v : Int64} {n : Nat} (hS : sOk M.1) (hn : M.2.1 3 5 = (n : Int)) (hn2 : n ≤ 1000) : Ct (d + 1) 0 0 yX8_addEight [.ref 3, .long (v)] M (fun r M2 => r = none ∧ fr [3, 5] M M2 ∧ M2.2.1 5 = (lyN v 8 (M.2.1 5, n)).1 ∧ M2.2.1 3 = va_up (M.2.1 3) 5 (((lyN v 8 (M.2.1 5, n)).2 : Nat) : Int)) := by
  refine ct_in (d := d) kX8_addEight rfl (by decide) (Nat.le_of_ble_eq_true rfl) (by decide) ?_
  show Go (Ct d) _ yX8_addEight cX8_addEight none 0 0 0 [some (.ref 3), some (.long (v)), none, none, none] [] M
  refine r_bipush (pc2 := 2) dX8_addEight_0 rfl (by decide) (by decide) ?_
  refine r_istore3 (pc2 := 3) dX8_addEight_2 rfl rfl ?_
  exact lp_X8_addEight 8 M n none (by omega) hS hn hn2 (fun M2 h1 h2 h3 => ⟨rfl, h1, h2, h3⟩)
set_option maxHeartbeats 4000000 in
theorem lp_X12_lay {d : Nat} {Q : pQ} {v : Int64} : ∀ (k : Nat) (M : pM) (n : Nat) (x4 : Option Value), k ≤ 8 → sOk M.1 → M.2.1 317 2 = (n : Int) → n ≤ 1000 → (∀ M2, fr [317, 318] M M2 → M2.2.1 318 = (lyN v k (M.2.1 318, n)).1 → M2.2.1 317 = va_up (M.2.1 317) 2 (((lyN v k (M.2.1 318, n)).2 : Nat) : Int) → Q none M2) → Go (Ct d) Q yX12_lay cX12_lay none 0 0 3 [some (.ref 317), some (.long v), none, some (.int (iI (8 * (k : Int) - 8))), x4] [] M := by
  intro k
  induction k with
  | zero =>
    intro M n x4 hk hS hn hn2 hQ
    refine r_iload3 (pc2 := 4) dX12_lay_3 rfl ?_
    refine r_iflt (tgt := 75) (pc2 := 7) dX12_lay_4 rfl (by decide) ⟨by omega, by omega⟩ (fun b_4 => ?_) (fun b_4 => ?_)
    · refine r_ret dX12_lay_75 rfl ?_
      exact hQ M fr.rf rfl (up_id hn).symm
    · exact absurd b_4 (by omega)
  | succ k ih =>
    intro M n x4 hk hS hn hn2 hQ
    have hb := byt_lt v k
    have e8 : 8 * ((k + 1 : Nat) : Int) - 8 = 8 * (k : Int) := by omega
    rw [e8]
    refine r_iload3 (pc2 := 4) dX12_lay_3 rfl ?_
    refine r_iflt (tgt := 75) (pc2 := 7) dX12_lay_4 rfl (by decide) ⟨by omega, by omega⟩ (fun b_4 => ?_) (fun b_4 => ?_)
    · refine r_ret dX12_lay_75 rfl ?_
      exact absurd b_4 (by omega)
    · refine r_lload1 (pc2 := 8) dX12_lay_7 rfl ?_
      refine r_iload3 (pc2 := 9) dX12_lay_8 rfl ?_
      refine r_lshr (pc2 := 10) dX12_lay_9 rfl ?_
      refine r_l2i (pc2 := 11) dX12_lay_10 rfl ?_
      refine r_sipush (pc2 := 14) dX12_lay_11 rfl (by decide) (by decide) ?_
      refine r_iand (pc2 := 15) dX12_lay_14 rfl ?_
      rw [byt_s v (by omega)]
      refine r_istore4 (pc2 := 17) dX12_lay_15 rfl rfl ?_
      refine r_iload4 (pc2 := 19) dX12_lay_17 rfl ?_
      refine r_bipush (pc2 := 21) dX12_lay_19 rfl (by decide) (by decide) ?_
      refine r_iceq (tgt := 38) (pc2 := 24) dX12_lay_21 rfl (by decide) ⟨by omega, by omega⟩ ⟨by omega, by omega⟩ (fun b_21 => ?_) (fun b_21 => ?_)
      · refine r_aload0 (pc2 := 39) dX12_lay_38 rfl ?_
        refine r_getI (z := ((n : Nat) : Int)) (pc2 := 42) dX12_lay_39 rfl (Or.inl fX12_11) (hK_317 hS) hn ?_
        refine r_sipush (pc2 := 45) dX12_lay_42 rfl (by decide) (by decide) ?_
        refine r_icge (tgt := 69) (pc2 := 48) dX12_lay_45 rfl (by decide) ⟨by omega, by omega⟩ ⟨by omega, by omega⟩ (fun b_45 => ?_) (fun b_45 => ?_)
        · refine r_iinc3 (z := (8 * (k : Int) - 8)) (pc2 := 72) dX12_lay_69 rfl (by omega) rfl ?_
          refine r_goto (tgt := 3) dX12_lay_72 (by decide) ?_
          refine ih M n _ (by omega) hS hn hn2 (fun M2 h1 h2 h3 => hQ M2 h1 ?_ ?_)
          · rw [h2]; show _ = (lyN v k (ly1 (M.2.1 318, n) (byt v k))).1; rw [show ly1 (M.2.1 318, n) (byt v k) = (M.2.1 318, n) from if_neg (by omega)]
          · rw [h3]; show _ = va_up _ _ (((lyN v k (ly1 (M.2.1 318, n) (byt v k))).2 : Nat) : Int); rw [show ly1 (M.2.1 318, n) (byt v k) = (M.2.1 318, n) from if_neg (by omega)]
        · refine r_aload0 (pc2 := 49) dX12_lay_48 rfl ?_
          refine r_getR (pc2 := 52) dX12_lay_49 rfl fX12_14 (hK_317 hS) (hR_317_1 hS) ?_
          refine r_aload0 (pc2 := 53) dX12_lay_52 rfl ?_
          refine r_getI (z := ((n : Nat) : Int)) (pc2 := 56) dX12_lay_53 rfl (Or.inl fX12_11) (hK_317 hS) hn ?_
          refine r_iload4 (pc2 := 58) dX12_lay_56 rfl ?_
          refine r_iast (z := (byt v k)) (pc2 := 59) dX12_lay_58 rfl (hK_318 hS) (by decide) n rfl (by omega) ?_
          refine r_aload0 (pc2 := 60) dX12_lay_59 rfl ?_
          refine r_dup (pc2 := 61) dX12_lay_60 rfl rfl ?_
          refine r_getI (z := ((n : Nat) : Int)) (pc2 := 64) dX12_lay_61 rfl (Or.inl fX12_11) (hK_317 hS) hn ?_
          refine r_iconst (pc2 := 65) dX12_lay_64 rfl ?_
          refine r_iadd (c := (((n : Nat) : Int) + 1)) (pc2 := 66) dX12_lay_65 rfl rfl ?_
          refine r_putI (z := (((n : Nat) : Int) + 1)) (pc2 := 69) dX12_lay_66 rfl fX12_11 (w12_2 _) (hK_317 hS) (by decide) ?_
          refine r_iinc3 (z := (8 * (k : Int) - 8)) (pc2 := 72) dX12_lay_69 rfl (by omega) rfl ?_
          refine r_goto (tgt := 3) dX12_lay_72 (by decide) ?_
          have ea : (pI (pI M 318 n (byt v k)) 317 2 (((n : Nat) : Int) + 1)).2.1 318 = va_up (M.2.1 318) n (byt v k) := by rw [pI_ne (by decide), pI_eq]
          have et : (pI (pI M 318 n (byt v k)) 317 2 (((n : Nat) : Int) + 1)).2.1 317 = va_up (M.2.1 317) 2 ((n : Int) + 1) := by rw [pI_eq, pI_ne (by decide)]
          have e1 : ly1 (M.2.1 318, n) (byt v k) = (va_up (M.2.1 318) n (byt v k), n + 1) := if_pos ⟨by omega, by show n < 1000; omega⟩
          refine ih (pI (pI M 318 n (byt v k)) 317 2 (((n : Nat) : Int) + 1)) (n + 1) _ (by omega) hS (by rw [et, up_at]; omega) (by omega) (fun M2 h1 h2 h3 => hQ M2 ((fr.I (fr.I fr.rf (by decide)) (by decide)).tr h1) ?_ ?_)
          · rw [h2, ea]; show _ = (lyN v k (ly1 (M.2.1 318, n) (byt v k))).1; rw [e1]
          · rw [h3, ea, et, up_up]; show _ = va_up _ _ (((lyN v k (ly1 (M.2.1 318, n) (byt v k))).2 : Nat) : Int); rw [e1]
      · refine r_iload4 (pc2 := 26) dX12_lay_24 rfl ?_
        refine r_bipush (pc2 := 28) dX12_lay_26 rfl (by decide) (by decide) ?_
        refine r_iclt (tgt := 69) (pc2 := 31) dX12_lay_28 rfl (by decide) ⟨by omega, by omega⟩ ⟨by omega, by omega⟩ (fun b_28 => ?_) (fun b_28 => ?_)
        · refine r_iinc3 (z := (8 * (k : Int) - 8)) (pc2 := 72) dX12_lay_69 rfl (by omega) rfl ?_
          refine r_goto (tgt := 3) dX12_lay_72 (by decide) ?_
          refine ih M n _ (by omega) hS hn hn2 (fun M2 h1 h2 h3 => hQ M2 h1 ?_ ?_)
          · rw [h2]; show _ = (lyN v k (ly1 (M.2.1 318, n) (byt v k))).1; rw [show ly1 (M.2.1 318, n) (byt v k) = (M.2.1 318, n) from if_neg (by omega)]
          · rw [h3]; show _ = va_up _ _ (((lyN v k (ly1 (M.2.1 318, n) (byt v k))).2 : Nat) : Int); rw [show ly1 (M.2.1 318, n) (byt v k) = (M.2.1 318, n) from if_neg (by omega)]
        · refine r_iload4 (pc2 := 33) dX12_lay_31 rfl ?_
          refine r_bipush (pc2 := 35) dX12_lay_33 rfl (by decide) (by decide) ?_
          refine r_icgt (tgt := 69) (pc2 := 38) dX12_lay_35 rfl (by decide) ⟨by omega, by omega⟩ ⟨by omega, by omega⟩ (fun b_35 => ?_) (fun b_35 => ?_)
          · refine r_iinc3 (z := (8 * (k : Int) - 8)) (pc2 := 72) dX12_lay_69 rfl (by omega) rfl ?_
            refine r_goto (tgt := 3) dX12_lay_72 (by decide) ?_
            refine ih M n _ (by omega) hS hn hn2 (fun M2 h1 h2 h3 => hQ M2 h1 ?_ ?_)
            · rw [h2]; show _ = (lyN v k (ly1 (M.2.1 318, n) (byt v k))).1; rw [show ly1 (M.2.1 318, n) (byt v k) = (M.2.1 318, n) from if_neg (by omega)]
            · rw [h3]; show _ = va_up _ _ (((lyN v k (ly1 (M.2.1 318, n) (byt v k))).2 : Nat) : Int); rw [show ly1 (M.2.1 318, n) (byt v k) = (M.2.1 318, n) from if_neg (by omega)]
          · refine r_aload0 (pc2 := 39) dX12_lay_38 rfl ?_
            refine r_getI (z := ((n : Nat) : Int)) (pc2 := 42) dX12_lay_39 rfl (Or.inl fX12_11) (hK_317 hS) hn ?_
            refine r_sipush (pc2 := 45) dX12_lay_42 rfl (by decide) (by decide) ?_
            refine r_icge (tgt := 69) (pc2 := 48) dX12_lay_45 rfl (by decide) ⟨by omega, by omega⟩ ⟨by omega, by omega⟩ (fun b_45 => ?_) (fun b_45 => ?_)
            · refine r_iinc3 (z := (8 * (k : Int) - 8)) (pc2 := 72) dX12_lay_69 rfl (by omega) rfl ?_
              refine r_goto (tgt := 3) dX12_lay_72 (by decide) ?_
              refine ih M n _ (by omega) hS hn hn2 (fun M2 h1 h2 h3 => hQ M2 h1 ?_ ?_)
              · rw [h2]; show _ = (lyN v k (ly1 (M.2.1 318, n) (byt v k))).1; rw [show ly1 (M.2.1 318, n) (byt v k) = (M.2.1 318, n) from if_neg (by omega)]
              · rw [h3]; show _ = va_up _ _ (((lyN v k (ly1 (M.2.1 318, n) (byt v k))).2 : Nat) : Int); rw [show ly1 (M.2.1 318, n) (byt v k) = (M.2.1 318, n) from if_neg (by omega)]
            · refine r_aload0 (pc2 := 49) dX12_lay_48 rfl ?_
              refine r_getR (pc2 := 52) dX12_lay_49 rfl fX12_14 (hK_317 hS) (hR_317_1 hS) ?_
              refine r_aload0 (pc2 := 53) dX12_lay_52 rfl ?_
              refine r_getI (z := ((n : Nat) : Int)) (pc2 := 56) dX12_lay_53 rfl (Or.inl fX12_11) (hK_317 hS) hn ?_
              refine r_iload4 (pc2 := 58) dX12_lay_56 rfl ?_
              refine r_iast (z := (byt v k)) (pc2 := 59) dX12_lay_58 rfl (hK_318 hS) (by decide) n rfl (by omega) ?_
              refine r_aload0 (pc2 := 60) dX12_lay_59 rfl ?_
              refine r_dup (pc2 := 61) dX12_lay_60 rfl rfl ?_
              refine r_getI (z := ((n : Nat) : Int)) (pc2 := 64) dX12_lay_61 rfl (Or.inl fX12_11) (hK_317 hS) hn ?_
              refine r_iconst (pc2 := 65) dX12_lay_64 rfl ?_
              refine r_iadd (c := (((n : Nat) : Int) + 1)) (pc2 := 66) dX12_lay_65 rfl rfl ?_
              refine r_putI (z := (((n : Nat) : Int) + 1)) (pc2 := 69) dX12_lay_66 rfl fX12_11 (w12_2 _) (hK_317 hS) (by decide) ?_
              refine r_iinc3 (z := (8 * (k : Int) - 8)) (pc2 := 72) dX12_lay_69 rfl (by omega) rfl ?_
              refine r_goto (tgt := 3) dX12_lay_72 (by decide) ?_
              have ea : (pI (pI M 318 n (byt v k)) 317 2 (((n : Nat) : Int) + 1)).2.1 318 = va_up (M.2.1 318) n (byt v k) := by rw [pI_ne (by decide), pI_eq]
              have et : (pI (pI M 318 n (byt v k)) 317 2 (((n : Nat) : Int) + 1)).2.1 317 = va_up (M.2.1 317) 2 ((n : Int) + 1) := by rw [pI_eq, pI_ne (by decide)]
              have e1 : ly1 (M.2.1 318, n) (byt v k) = (va_up (M.2.1 318) n (byt v k), n + 1) := if_pos ⟨by omega, by show n < 1000; omega⟩
              refine ih (pI (pI M 318 n (byt v k)) 317 2 (((n : Nat) : Int) + 1)) (n + 1) _ (by omega) hS (by rw [et, up_at]; omega) (by omega) (fun M2 h1 h2 h3 => hQ M2 ((fr.I (fr.I fr.rf (by decide)) (by decide)).tr h1) ?_ ?_)
              · rw [h2, ea]; show _ = (lyN v k (ly1 (M.2.1 318, n) (byt v k))).1; rw [e1]
              · rw [h3, ea, et, up_up]; show _ = va_up _ _ (((lyN v k (ly1 (M.2.1 318, n) (byt v k))).2 : Nat) : Int); rw [e1]
set_option maxHeartbeats 4000000 in
theorem c_X12_lay {d : Nat} {M : pM} {v : Int64} {n : Nat} (hS : sOk M.1) (hn : M.2.1 317 2 = (n : Int)) (hn2 : n ≤ 1000) : Ct (d + 1) 0 0 yX12_lay [.ref 317, .long (v)] M (fun r M2 => r = none ∧ fr [317, 318] M M2 ∧ M2.2.1 318 = (lyN v 8 (M.2.1 318, n)).1 ∧ M2.2.1 317 = va_up (M.2.1 317) 2 (((lyN v 8 (M.2.1 318, n)).2 : Nat) : Int)) := by
  refine ct_in (d := d) kX12_lay rfl (by decide) (Nat.le_of_ble_eq_true rfl) (by decide) ?_
  show Go (Ct d) _ yX12_lay cX12_lay none 0 0 0 [some (.ref 317), some (.long (v)), none, none, none] [] M
  refine r_bipush (pc2 := 2) dX12_lay_0 rfl (by decide) (by decide) ?_
  refine r_istore3 (pc2 := 3) dX12_lay_2 rfl rfl ?_
  exact lp_X12_lay 8 M n none (by omega) hS hn hn2 (fun M2 h1 h2 h3 => ⟨rfl, h1, h2, h3⟩)
