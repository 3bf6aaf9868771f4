/-! the way back through the parents (both sides): the HOPPERS that led to a state -/
def trc (P H : Nat → Int) : Nat → Int → List Int
  | 0, _ => []
  | f + 1, w => if w ≤ 0 then [] else trc P H f (P w.toNat) ++ [H w.toNat]
theorem trc_le {P H : Nat → Int} : ∀ (f : Nat) (w : Int), (trc P H f w).length ≤ f := by
  intro f
  induction f with
  | zero => intro w; exact Nat.le_refl 0
  | succ f ih =>
    intro w
    rw [trc]
    split
    · exact Nat.zero_le _
    · have := ih (P w.toNat)
      rw [List.length_append, List.length_singleton]; omega
theorem trc_0 {P H : Nat → Int} {f : Nat} {w : Int} (h : w ≤ 0) : trc P H f w = [] := by
  cases f with
  | zero => rfl
  | succ f => rw [trc, if_pos h]
theorem trc_s {P H : Nat → Int} {f : Nat} {w : Int} (h : 0 < w) : trc P H (f + 1) w = trc P H f (P w.toNat) ++ [H w.toNat] := by rw [trc, if_neg (by omega)]
/-- the j-th HOPPER of the TRY, with one more at its end -/
def trp (P H : Nat → Int) (s : Nat) (last : Int) (j : Nat) : Int := (trc P H s (s : Int) ++ [last]).getD j 0
theorem trp_last {P H : Nat → Int} {s : Nat} {last : Int} : trp P H s last (trc P H s (s : Int)).length = last := by
  unfold trp; simp
theorem trp_in {P H : Nat → Int} {s j : Nat} {last : Int} (h : j < (trc P H s (s : Int)).length) : trp P H s last j = (trc P H s (s : Int)).getD j 0 := by
  unfold trp
  simp only [List.getD_eq_getElem?_getD]
  rw [List.getElem?_append_left h]
set_option maxHeartbeats 4000000 in
theorem lp_X6_tracePathb {d : Nat} {Q : pQ} {pa n s T : Nat} {last : Int} {P H : Nat → Int} (M0 : pM) (hS : sOk M0.1) (hKa0 : M0.1.2.1 pa = (2, 3001)) (h2a : 2 ≤ pa) (hp1 : pa ≠ 259) (hp2 : pa ≠ 260) (hp3 : pa ≠ 256) (hn : n ≤ 3001) (hs : s < n) (hP : ∀ i, 0 < i → i < n → -1 ≤ P i ∧ P i < (i : Int)) (hPe : ∀ i, i < n → M0.2.1 259 i = P i ∧ M0.2.1 260 i = H i) (hT : T = (trc P H s (s : Int)).length + 1)
    (hQ : ∀ M2, fr [pa] M0 M2 → (∀ j, j < T → M2.2.1 pa j = trp P H s last j) → Q (some (.int (iI ((T : Nat) : Int)))) M2) :
    ∀ (f i : Nat) (w : Int) (M : pM), w ≤ (f : Int) → -1 ≤ w → w < (n : Int) → i < T → (trc P H f w).length = i → (∀ j, j < i → (trc P H f w).getD j 0 = trp P H s last j) → fr [pa] M0 M → (∀ j, i ≤ j → j < T → M.2.1 pa j = trp P H s last j) →
      Go (Ct d) Q yX6_tracePath cX6_tracePath (some .int) 0 0 49 [some (.ref 256), some (.int (iI ((s : Nat) : Int))), some (.int (iI last)), some (.ref pa), some (.int (iI ((T : Nat) : Int))), some (.int (iI w)), some (.int (iI (((i : Nat) : Int) - 1)))] [] M := by
  have hTb : T ≤ 3001 := by have := trc_le (P := P) (H := H) s (s : Int); omega
  intro f
  induction f with
  | zero =>
    intro i w M hw hw2 hw3 hi hl hj hfr hM
    have hS := hfr.ok hS
    have hKa : M.1.2.1 pa = (2, 3001) := by rw [hfr.1]; exact hKa0
    obtain rfl : i = 0 := hl.symm
    refine r_iload6 (pc2 := 51) dX6_tracePath_49 rfl ?_
    refine r_iflt (tgt := 80) (pc2 := 54) dX6_tracePath_51 rfl (by decide) ⟨by omega, by omega⟩ (fun b_51 => ?_) (fun b_51 => ?_)
    · refine r_iload4 (pc2 := 82) dX6_tracePath_80 rfl ?_
      refine r_ireti dX6_tracePath_82 rfl ?_
      exact hQ M hfr (fun j h => hM j (by omega) h)
    · exact absurd b_51 (by omega)
  | succ f ih =>
    intro i w M hw hw2 hw3 hi hl hj hfr hM
    have hS := hfr.ok hS
    have hKa : M.1.2.1 pa = (2, 3001) := by rw [hfr.1]; exact hKa0
    by_cases h0 : w ≤ 0
    · rw [trc_0 h0] at hl
      obtain rfl : i = 0 := hl.symm
      refine r_iload6 (pc2 := 51) dX6_tracePath_49 rfl ?_
      refine r_iflt (tgt := 80) (pc2 := 54) dX6_tracePath_51 rfl (by decide) ⟨by omega, by omega⟩ (fun b_51 => ?_) (fun b_51 => ?_)
      · refine r_iload4 (pc2 := 82) dX6_tracePath_80 rfl ?_
        refine r_ireti dX6_tracePath_82 rfl ?_
        exact hQ M hfr (fun j h => hM j (by omega) h)
      · exact absurd b_51 (by omega)
    · have hts := trc_s (P := P) (H := H) (f := f) (show 0 < w by omega)
      rw [hts] at hl hj
      rw [List.length_append, List.length_singleton] at hl
      obtain ⟨i2, rfl⟩ : ∃ i2, i = i2 + 1 := ⟨(trc P H f (P w.toNat)).length, hl.symm⟩
      have hl2 : (trc P H f (P w.toNat)).length = i2 := by omega
      have hPw := hP w.toNat (by omega) (by omega)
      have hPe1 : M.2.1 259 w.toNat = P w.toNat := by rw [hfr.i (by simp [hp1.symm])]; exact (hPe _ (by omega)).1
      have hPe2 : M.2.1 260 w.toNat = H w.toNat := by rw [hfr.i (by simp [hp2.symm])]; exact (hPe _ (by omega)).2
      have hj2 : trp P H s last i2 = H w.toNat := by
        rw [← hj i2 (by omega), ← hl2]; simp
      rw [show ((i2 + 1 : Nat) : Int) - 1 = ((i2 : Nat) : Int) by omega]
      refine r_iload6 (pc2 := 51) dX6_tracePath_49 rfl ?_
      refine r_iflt (tgt := 80) (pc2 := 54) dX6_tracePath_51 rfl (by decide) ⟨by omega, by omega⟩ (fun b_51 => ?_) (fun b_51 => ?_)
      · refine r_iload4 (pc2 := 82) dX6_tracePath_80 rfl ?_
        refine r_ireti dX6_tracePath_82 rfl ?_
        exact absurd b_51 (by omega)
      · refine r_aload3 (pc2 := 55) dX6_tracePath_54 rfl ?_
        refine r_iload6 (pc2 := 57) dX6_tracePath_55 rfl ?_
        refine r_aload0 (pc2 := 58) dX6_tracePath_57 rfl ?_
        refine r_getR (pc2 := 61) dX6_tracePath_58 rfl fX6_22 (hK_256 hS) (hR_256_3 hS) ?_
        refine r_iload5 (pc2 := 63) dX6_tracePath_61 rfl ?_
        refine r_iald (z := (H w.toNat)) (pc2 := 64) dX6_tracePath_63 rfl (hK_260 hS) (w).toNat (by omega) (by omega) hPe2 ?_
        refine r_iast (z := (H w.toNat)) (pc2 := 65) dX6_tracePath_64 rfl hKa h2a i2 rfl (by omega) ?_
        refine r_aload0 (pc2 := 66) dX6_tracePath_65 rfl ?_
        refine r_getR (pc2 := 69) dX6_tracePath_66 rfl fX6_18 (hK_256 hS) (hR_256_2 hS) ?_
        refine r_iload5 (pc2 := 71) dX6_tracePath_69 rfl ?_
        refine r_iald (z := (P w.toNat)) (pc2 := 72) dX6_tracePath_71 rfl (hK_259 hS) (w).toNat (by omega) (by omega) (by rw [pI_ne hp1.symm]; exact hPe1) ?_
        refine r_istore5 (pc2 := 74) dX6_tracePath_72 rfl rfl ?_
        refine r_iinc6 (z := (((i2 : Nat) : Int) - 1)) (pc2 := 77) dX6_tracePath_74 rfl (by omega) rfl ?_
        refine r_goto (tgt := 49) dX6_tracePath_77 (by decide) ?_
        refine ih i2 (P w.toNat) _ (by omega) hPw.1 (by omega) (by omega) hl2 (fun j h => ?_) (hfr.I List.mem_cons_self) (fun j h h3 => ?_)
        · rw [← hj j (by omega)]
          simp only [List.getD_eq_getElem?_getD]
          rw [List.getElem?_append_left (by omega)]
        · by_cases e9 : j = i2
          · subst e9; rw [pI_at, hj2]
          · rw [pI_nk e9]; exact hM j (by omega) h3
set_option maxHeartbeats 4000000 in
theorem lp_X6_tracePatha {d : Nat} {Q : pQ} {pa n s T : Nat} {last : Int} {P H : Nat → Int} (M0 : pM) (hS : sOk M0.1) (hKa0 : M0.1.2.1 pa = (2, 3001)) (h2a : 2 ≤ pa) (hp1 : pa ≠ 259) (hp2 : pa ≠ 260) (hp3 : pa ≠ 256) (hn : n ≤ 3001) (hs : s < n) (hP : ∀ i, 0 < i → i < n → -1 ≤ P i ∧ P i < (i : Int)) (hPe : ∀ i, i < n → M0.2.1 259 i = P i ∧ M0.2.1 260 i = H i) (hT : T = (trc P H s (s : Int)).length + 1)
    (hQ : ∀ M2, fr [pa] M0 M2 → (∀ j, j < T → M2.2.1 pa j = trp P H s last j) → Q (some (.int (iI ((T : Nat) : Int)))) M2) :
    ∀ (f u : Nat) (w : Int), w ≤ (f : Int) → -1 ≤ w → w < (n : Int) → u + (trc P H f w).length = T →
      Go (Ct d) Q yX6_tracePath cX6_tracePath (some .int) 0 0 6 [some (.ref 256), some (.int (iI ((s : Nat) : Int))), some (.int (iI last)), some (.ref pa), some (.int (iI ((u : Nat) : Int))), some (.int (iI w)), none] [] M0 := by
  have hTb : T ≤ 3001 := by have := trc_le (P := P) (H := H) s (s : Int); omega
  have hKa := hKa0
  have fin : ∀ w9 : Int, Go (Ct d) Q yX6_tracePath cX6_tracePath (some .int) 0 0 33 [some (.ref 256), some (.int (iI ((s : Nat) : Int))), some (.int (iI last)), some (.ref pa), some (.int (iI ((T : Nat) : Int))), some (.int (iI w9)), none] [] M0 := by
    intro w9
    obtain ⟨t, ht⟩ : ∃ t, T = t + 1 := ⟨_, hT⟩
    have ht2 : (trc P H s (s : Int)).length = t := by omega
    refine r_aload3 (pc2 := 34) dX6_tracePath_33 rfl ?_
    refine r_iload4 (pc2 := 36) dX6_tracePath_34 rfl ?_
    refine r_iconst (pc2 := 37) dX6_tracePath_36 rfl ?_
    refine r_isub (c := ((t : Nat) : Int)) (pc2 := 38) dX6_tracePath_37 rfl (by omega) ?_
    refine r_iload2 (pc2 := 39) dX6_tracePath_38 rfl ?_
    refine r_iast (z := last) (pc2 := 40) dX6_tracePath_39 rfl hKa h2a t rfl (by omega) ?_
    refine r_iload1 (pc2 := 41) dX6_tracePath_40 rfl ?_
    refine r_istore5 (pc2 := 43) dX6_tracePath_41 rfl rfl ?_
    refine r_iload4 (pc2 := 45) dX6_tracePath_43 rfl ?_
    refine r_iconst (pc2 := 46) dX6_tracePath_45 rfl ?_
    refine r_isub (c := (((t : Nat) : Int) - 1)) (pc2 := 47) dX6_tracePath_46 rfl (by omega) ?_
    refine r_istore6 (pc2 := 49) dX6_tracePath_47 rfl rfl ?_
    refine lp_X6_tracePathb M0 hS hKa0 h2a hp1 hp2 hp3 hn hs hP hPe hT hQ s t (s : Int) _ (by omega) (by omega) (by omega) (by omega) ht2 (fun j h => (trp_in (by omega)).symm) (fr.rf.I List.mem_cons_self) (fun j h h3 => ?_)
    obtain rfl : j = t := by omega
    rw [pI_at]
    conv => rhs; rw [← ht2]
    exact trp_last.symm
  intro f
  induction f with
  | zero =>
    intro u w hw hw2 hw3 hu
    obtain rfl : u = T := by rw [trc_0 (by omega)] at hu; exact hu
    refine r_iload5 (pc2 := 8) dX6_tracePath_6 rfl ?_
    refine r_ifle (tgt := 33) (pc2 := 11) dX6_tracePath_8 rfl (by decide) ⟨by omega, by omega⟩ (fun b_8 => ?_) (fun b_8 => ?_)
    · exact fin w
    · exact absurd b_8 (by omega)
  | succ f ih =>
    intro u w hw hw2 hw3 hu
    by_cases h0 : w ≤ 0
    · obtain rfl : u = T := by rw [trc_0 h0] at hu; exact hu
      refine r_iload5 (pc2 := 8) dX6_tracePath_6 rfl ?_
      refine r_ifle (tgt := 33) (pc2 := 11) dX6_tracePath_8 rfl (by decide) ⟨by omega, by omega⟩ (fun b_8 => ?_) (fun b_8 => ?_)
      · exact fin w
      · exact absurd b_8 (by omega)
    · have hts := trc_s (P := P) (H := H) (f := f) (show 0 < w by omega)
      rw [hts, List.length_append, List.length_singleton] at hu
      have hPw := hP w.toNat (by omega) (by omega)
      have hPe1 := (hPe w.toNat (by omega)).1
      refine r_iload5 (pc2 := 8) dX6_tracePath_6 rfl ?_
      refine r_ifle (tgt := 33) (pc2 := 11) dX6_tracePath_8 rfl (by decide) ⟨by omega, by omega⟩ (fun b_8 => ?_) (fun b_8 => ?_)
      · exact absurd b_8 (by omega)
      · refine r_iload4 (pc2 := 13) dX6_tracePath_11 rfl ?_
        refine r_aload3 (pc2 := 14) dX6_tracePath_13 rfl ?_
        refine r_alen (pc2 := 15) dX6_tracePath_14 rfl hKa (by decide) ?_
        refine r_icge (tgt := 33) (pc2 := 18) dX6_tracePath_15 rfl (by decide) ⟨by omega, by omega⟩ ⟨by omega, by omega⟩ (fun b_15 => ?_) (fun b_15 => ?_)
        · exact absurd b_15 (by omega)
        · refine r_iinc4 (z := ((u + 1 : Nat) : Int)) (pc2 := 21) dX6_tracePath_18 rfl (by omega) rfl ?_
          refine r_aload0 (pc2 := 22) dX6_tracePath_21 rfl ?_
          refine r_getR (pc2 := 25) dX6_tracePath_22 rfl fX6_18 (hK_256 hS) (hR_256_2 hS) ?_
          refine r_iload5 (pc2 := 27) dX6_tracePath_25 rfl ?_
          refine r_iald (z := (P w.toNat)) (pc2 := 28) dX6_tracePath_27 rfl (hK_259 hS) (w).toNat (by omega) (by omega) hPe1 ?_
          refine r_istore5 (pc2 := 30) dX6_tracePath_28 rfl rfl ?_
          refine r_goto (tgt := 6) dX6_tracePath_30 (by decide) ?_
          exact ih (u + 1) (P w.toNat) (by omega) hPw.1 (by omega) (by omega)
set_option maxHeartbeats 4000000 in
theorem c_X6_tracePath {d : Nat} {M : pM} {pa n s : Nat} {last : Int} {P H : Nat → Int} (hS : sOk M.1) (hKa : M.1.2.1 pa = (2, 3001)) (h2a : 2 ≤ pa) (hp1 : pa ≠ 259) (hp2 : pa ≠ 260) (hp3 : pa ≠ 256) (hn : n ≤ 3001) (hs : s < n) (hP : ∀ i, 0 < i → i < n → -1 ≤ P i ∧ P i < (i : Int)) (hPe : ∀ i, i < n → M.2.1 259 i = P i ∧ M.2.1 260 i = H i) : Ct (d + 1) 0 0 yX6_tracePath [.ref 256, .int (iI ((s : Nat) : Int)), .int (iI last), .ref (pa)] M (fun v M2 => v = some (.int (iI (((trc P H s (s : Int)).length + 1 : Nat) : Int))) ∧ fr [pa] M M2 ∧ ∀ j, j < (trc P H s (s : Int)).length + 1 → M2.2.1 pa j = trp P H s last j) := by
  refine ct_in (d := d) kX6_tracePath rfl (by decide) (Nat.le_of_ble_eq_true rfl) (by decide) ?_
  show Go (Ct d) _ yX6_tracePath cX6_tracePath (some .int) 0 0 0 [some (.ref 256), some (.int (iI ((s : Nat) : Int))), some (.int (iI last)), some (.ref (pa)), none, none, none] [] M
  refine r_iconst (pc2 := 1) dX6_tracePath_0 rfl ?_
  refine r_istore4 (pc2 := 3) dX6_tracePath_1 rfl rfl ?_
  refine r_iload1 (pc2 := 4) dX6_tracePath_3 rfl ?_
  refine r_istore5 (pc2 := 6) dX6_tracePath_4 rfl rfl ?_
  exact lp_X6_tracePatha M hS hKa h2a hp1 hp2 hp3 hn hs hP hPe rfl (fun M2 h1 h2 => ⟨rfl, h1, h2⟩) s 1 (s : Int) (by omega) (by omega) (by omega) (by omega)
