/-! the model's cutAll (317: taped 2, size 3, at 7, fault 8; tape 318, sort 319, place 320, value 321) -/
def mSo (k : Int) : Int := if 1 ≤ k ∧ k ≤ 18 then 1 else if k = 19 then 2 else if k = 40 ∨ k = 41 ∨ k = 45 ∨ k = 59 then 3 else if k = 22 then 0 else 4
theorem mSo_r {k : Int} : 0 ≤ mSo k ∧ mSo k ≤ 4 := by unfold mSo; (repeat' split) <;> omega
def mTk (M : pM) (s : Nat → Int) (a e i : Nat) : Prop := M.2.1 320 i = (a : Int) ∧ M.2.1 319 i = mSo (tKd s a e) ∧ (tKd s a e = 19 → M.2.2 321 i = lN (e10 s a (e - a))) ∧ (isW (tKd s a e) → M.2.2 321 i = lN (m37 8 (e256 s a (e - a)))) ∧ (40 ≤ tKd s a e → M.2.2 321 i = jL (tKd s a e))
def MTk (M : pM) (s : Nat → Int) (t : tkS) : Prop := ∀ i, i < t.1 → mTk M s (t.2.2.1 i) (t.2.2.2 i) i
theorem mTk.of {M M2 : pM} {s : Nat → Int} {a e i : Nat} (h : mTk M s a e i) (h1 : M2.2.1 320 i = M.2.1 320 i) (h2 : M2.2.1 319 i = M.2.1 319 i) (h3 : M2.2.2 321 i = M.2.2 321 i) : mTk M2 s a e i := by unfold mTk; rw [h1, h2, h3]; exact h
theorem tk_run {s : Nat → Int} {a : Nat} {z : Int} (hz : z = 18 ∨ z = 19) (hla : ¬ (tk s a).2.1 = z) : ∀ j, (∀ q, q ≤ j → srt (s (a + q)) = z) → tk s (a + j + 1) = ((tk s a).1 + 1, z, va_up (tk s a).2.2.1 (tk s a).1 a, va_up (tk s a).2.2.2 (tk s a).1 (a + j + 1)) := by
  intro j
  induction j with
  | zero =>
    intro h
    have h0 : srt (s a) = z := h 0 (Nat.le_refl _)
    show tk1 s a (tk s a) = _
    unfold tk1
    rw [h0, if_neg (fun q => hla q.1.symm), if_neg (by omega)]
  | succ j ih =>
    intro h
    have h1 := ih (fun q hq => h q (by omega))
    have h2 : srt (s (a + j + 1)) = z := h (j + 1) (Nat.le_refl _)
    show tk1 s (a + j + 1) (tk s (a + j + 1)) = _
    rw [h1]
    unfold tk1
    simp only
    rw [h2, if_pos ⟨rfl, hz⟩, Nat.add_sub_cancel, up_up]
    rfl
theorem rk_step {c : Nat} {z : Int} (hz : 96 ≤ z) : (37 : Int64) * (lN c) + (jL (z - 96)) = lN (37 * c + (z.toNat - 96)) := by
  have e1 : (37 : Int64) = jL 37 := rfl
  rw [e1, ← jL_nat, ← jL_nat, jL_mul, jL_add]
  congr 1
  omega
set_option maxHeartbeats 4000000 in
theorem c_X12_rank {d : Nat} {M : pM} {c : Int} (hc : inR c) (hl : 97 ≤ c ∧ c ≤ 122) : Ct (d + 2) 0 0 yX12_rank [.int (iI c)] M (fun v M2 => v = some (.int (iI (c - 96))) ∧ M2 = M) := by
  refine ct_in (d := (d + 1)) kX12_rank rfl (by decide) (Nat.le_of_ble_eq_true rfl) (by decide) ?_
  show Go (Ct (d + 1)) _ yX12_rank cX12_rank (some .int) 0 0 0 [some (.int (iI c))] [] M
  refine r_iload0 (pc2 := 1) dX12_rank_0 rfl ?_
  refine r_cs1 (pc2 := 4) dX12_rank_1 rfl sX12_156 (by decide) (c_X12_isLetter (d := d) (c := c) hc) ?_
  rintro _ M9 ⟨rfl, h9⟩
  rw [h9, if_pos hl]
  show Go (Ct (d + 1)) _ yX12_rank cX12_rank (some .int) 0 0 4 [some (.int (iI c))] [.int (iI 1)] M
  refine r_ifeq (tgt := 14) (pc2 := 7) dX12_rank_4 rfl (by decide) ⟨by omega, by omega⟩ (fun h9 => absurd h9 (by decide)) (fun _ => ?_)
  refine r_iload0 (pc2 := 8) dX12_rank_7 rfl ?_
  refine r_bipush (pc2 := 10) dX12_rank_8 rfl (by decide) (by decide) ?_
  refine r_isub (c := (c - 96)) (pc2 := 11) dX12_rank_10 rfl rfl ?_
  refine r_goto (tgt := 18) dX12_rank_11 (by decide) ?_
  refine r_ireti dX12_rank_18 rfl ?_
  exact ⟨rfl, rfl⟩
set_option maxHeartbeats 4000000 in
theorem lpl_X12_cutAll {d : Nat} {Q : pQ} {L a n : Nat} {c : Int} {s : Nat → Int} {M : pM} (hS : sOk M.1) (hL : L ≤ 1000) (hl : M.2.1 317 3 = (L : Int)) (hs : ∀ j, j < L → M.2.1 318 j = s j ∧ 0 ≤ s j ∧ s j ≤ 126)
    (hQ : ∀ k, a ≤ k → k ≤ L → (∀ q, a ≤ q → q < k → 97 ≤ s q ∧ s q ≤ 122) → (k = L ∨ ¬ (97 ≤ s k ∧ s k ≤ 122)) → Go (Ct (d + 2)) Q yX12_cutAll cX12_cutAll none 0 0 129 [some (.ref 317), some (.int (iI ((n : Nat) : Int))), some (.int (iI ((k : Nat) : Int))), some (.int (iI c)), some (.int (iI ((a : Nat) : Int))), some (.long (lN (e37 s a (min (k - a) 8)))), none] [] M) :
    ∀ (m k : Nat), k + m = L → a ≤ k → (∀ q, a ≤ q → q < k → 97 ≤ s q ∧ s q ≤ 122) →
      Go (Ct (d + 2)) Q yX12_cutAll cX12_cutAll none 0 0 70 [some (.ref 317), some (.int (iI ((n : Nat) : Int))), some (.int (iI ((k : Nat) : Int))), some (.int (iI c)), some (.int (iI ((a : Nat) : Int))), some (.long (lN (e37 s a (min (k - a) 8)))), none] [] M := by
  intro m
  induction m with
  | zero =>
    intro k hm hak hi
    obtain rfl : k = L := by omega
    refine r_iload2 (pc2 := 71) dX12_cutAll_70 rfl ?_
    refine r_aload0 (pc2 := 72) dX12_cutAll_71 rfl ?_
    refine r_getI (z := ((k : Nat) : Int)) (pc2 := 75) dX12_cutAll_72 rfl (Or.inl fX12_160) (hK_317 hS) hl ?_
    refine r_icge (tgt := 129) (pc2 := 78) dX12_cutAll_75 rfl (by decide) ⟨by omega, by omega⟩ ⟨by omega, by omega⟩ (fun b_75 => ?_) (fun b_75 => ?_)
    · exact hQ k hak (Nat.le_refl _) hi (Or.inl rfl)
    · exact absurd b_75 (by omega)
  | succ m ih =>
    intro k hm hak hi
    have hsk := hs k (by omega)
    have ih2 := ih (k + 1) (by omega) (by omega)
    refine r_iload2 (pc2 := 71) dX12_cutAll_70 rfl ?_
    refine r_aload0 (pc2 := 72) dX12_cutAll_71 rfl ?_
    refine r_getI (z := ((L : Nat) : Int)) (pc2 := 75) dX12_cutAll_72 rfl (Or.inl fX12_160) (hK_317 hS) hl ?_
    refine r_icge (tgt := 129) (pc2 := 78) dX12_cutAll_75 rfl (by decide) ⟨by omega, by omega⟩ ⟨by omega, by omega⟩ (fun b_75 => ?_) (fun b_75 => ?_)
    · exact absurd b_75 (by omega)
    · refine r_aload0 (pc2 := 79) dX12_cutAll_78 rfl ?_
      refine r_getR (pc2 := 82) dX12_cutAll_79 rfl fX12_14 (hK_317 hS) (hR_317_1 hS) ?_
      refine r_iload2 (pc2 := 83) dX12_cutAll_82 rfl ?_
      refine r_iald (z := (s k)) (pc2 := 84) dX12_cutAll_83 rfl (hK_318 hS) k rfl (by omega) hsk.1 ?_
      refine r_cs1 (pc2 := 87) dX12_cutAll_84 rfl sX12_156 (by decide) (c_X12_isLetter (d := d + 1) (c := s k) ⟨by omega, by omega⟩) ?_
      by_cases hq : 97 ≤ s k ∧ s k ≤ 122
      · rintro _ M9 ⟨rfl, h9⟩
        rw [h9, if_pos hq]
        show Go (Ct (d + 2)) _ yX12_cutAll cX12_cutAll none 0 0 87 [some (.ref 317), some (.int (iI ((n : Nat) : Int))), some (.int (iI ((k : Nat) : Int))), some (.int (iI c)), some (.int (iI ((a : Nat) : Int))), some (.long ((lN (e37 s a (min (k - a) 8))))), none] [.int (iI 1)] M
        refine r_ifeq (tgt := 129) (pc2 := 90) dX12_cutAll_87 rfl (by decide) ⟨by omega, by omega⟩ (fun h9 => absurd h9 (by decide)) (fun _ => ?_)
        refine r_iload2 (pc2 := 91) dX12_cutAll_90 rfl ?_
        refine r_iload4 (pc2 := 93) dX12_cutAll_91 rfl ?_
        refine r_isub (c := (((k : Nat) : Int) - ((a : Nat) : Int))) (pc2 := 94) dX12_cutAll_93 rfl rfl ?_
        refine r_bipush (pc2 := 96) dX12_cutAll_94 rfl (by decide) (by decide) ?_
        refine r_icge (tgt := 119) (pc2 := 99) dX12_cutAll_96 rfl (by decide) ⟨by omega, by omega⟩ ⟨by omega, by omega⟩ (fun b_96 => ?_) (fun b_96 => ?_)
        · refine r_lload5 (pc2 := 121) dX12_cutAll_119 rfl ?_
          refine r_lstore5 (pc2 := 123) dX12_cutAll_121 rfl rfl ?_
          refine r_iinc2 (z := ((k + 1 : Nat) : Int)) (pc2 := 126) dX12_cutAll_123 rfl (by omega) rfl ?_
          refine r_goto (tgt := 70) dX12_cutAll_126 (by decide) ?_
          have hi2 : ∀ q, a ≤ q → q < k + 1 → 97 ≤ s q ∧ s q ≤ 122 := fun q q1 q2 => by by_cases u : q = k; (subst u; exact hq); (exact hi q q1 (by omega))
          have h9 := ih2 hi2
          rw [show min (k + 1 - a) 8 = min (k - a) 8 by omega] at h9
          exact h9
        · refine r_ldc2 (pc2 := 102) dX12_cutAll_99 rfl lX12_163 ?_
          refine r_lload5 (pc2 := 104) dX12_cutAll_102 rfl ?_
          refine r_lmul (pc2 := 105) dX12_cutAll_104 rfl ?_
          refine r_aload0 (pc2 := 106) dX12_cutAll_105 rfl ?_
          refine r_getR (pc2 := 109) dX12_cutAll_106 rfl fX12_14 (hK_317 hS) (hR_317_1 hS) ?_
          refine r_iload2 (pc2 := 110) dX12_cutAll_109 rfl ?_
          refine r_iald (z := (s k)) (pc2 := 111) dX12_cutAll_110 rfl (hK_318 hS) k rfl (by omega) hsk.1 ?_
          refine r_cs1 (pc2 := 114) dX12_cutAll_111 rfl sX12_165 (Nat.le_of_ble_eq_true rfl) (c_X12_rank (d := d) (c := s k) ⟨by omega, by omega⟩ hq) ?_
          rintro _ M9 ⟨rfl, h9⟩
          rw [h9]
          show Go (Ct (d + 2)) _ yX12_cutAll cX12_cutAll none 0 0 114 [some (.ref 317), some (.int (iI ((n : Nat) : Int))), some (.int (iI ((k : Nat) : Int))), some (.int (iI c)), some (.int (iI ((a : Nat) : Int))), some (.long ((lN (e37 s a (min (k - a) 8))))), none] [.int (iI (s k - 96)), .long (((37)) * ((lN (e37 s a (min (k - a) 8)))))] M
          refine r_i2l (pc2 := 115) dX12_cutAll_114 rfl ⟨by omega, by omega⟩ ?_
          refine r_ladd (pc2 := 116) dX12_cutAll_115 rfl ?_
          refine r_goto (tgt := 121) dX12_cutAll_116 (by decide) ?_
          refine r_lstore5 (pc2 := 123) dX12_cutAll_121 rfl rfl ?_
          refine r_iinc2 (z := ((k + 1 : Nat) : Int)) (pc2 := 126) dX12_cutAll_123 rfl (by omega) rfl ?_
          refine r_goto (tgt := 70) dX12_cutAll_126 (by decide) ?_
          have hi2 : ∀ q, a ≤ q → q < k + 1 → 97 ≤ s q ∧ s q ≤ 122 := fun q q1 q2 => by by_cases u : q = k; (subst u; exact hq); (exact hi q q1 (by omega))
          have h9 := ih2 hi2
          rw [show min (k + 1 - a) 8 = min (k - a) 8 + 1 by omega, e37, show a + min (k - a) 8 = k by omega, ← rk_step (by omega)] at h9
          exact h9
      · rintro _ M9 ⟨rfl, h9⟩
        rw [h9, if_neg hq]
        show Go (Ct (d + 2)) _ yX12_cutAll cX12_cutAll none 0 0 87 [some (.ref 317), some (.int (iI ((n : Nat) : Int))), some (.int (iI ((k : Nat) : Int))), some (.int (iI c)), some (.int (iI ((a : Nat) : Int))), some (.long ((lN (e37 s a (min (k - a) 8))))), none] [.int (iI 0)] M
        refine r_ifeq (tgt := 129) (pc2 := 90) dX12_cutAll_87 rfl (by decide) ⟨by omega, by omega⟩ (fun _ => ?_) (fun h9 => absurd h9 (by decide))
        exact hQ k hak (by omega) hi (Or.inr hq)
set_option maxHeartbeats 4000000 in
theorem lpd_X12_cutAll {d : Nat} {Q : pQ} {L a n : Nat} {c : Int} {s : Nat → Int} {M : pM} (hS : sOk M.1) (hL : L ≤ 1000) (hl : M.2.1 317 3 = (L : Int)) (hs : ∀ j, j < L → M.2.1 318 j = s j ∧ 0 ≤ s j ∧ s j ≤ 126)
    (hQ : ∀ k, a ≤ k → k ≤ L → (∀ q, a ≤ q → q < k → 48 ≤ s q ∧ s q ≤ 57) → (k = L ∨ ¬ (48 ≤ s k ∧ s k ≤ 57)) → Go (Ct (d + 2)) Q yX12_cutAll cX12_cutAll none 0 0 218 [some (.ref 317), some (.int (iI ((n : Nat) : Int))), some (.int (iI ((k : Nat) : Int))), some (.int (iI c)), some (.int (iI ((a : Nat) : Int))), some (.long (lN (e10 s a (min (k - a) 3)))), none] [] M) :
    ∀ (m k : Nat), k + m = L → a ≤ k → (∀ q, a ≤ q → q < k → 48 ≤ s q ∧ s q ≤ 57) →
      Go (Ct (d + 2)) Q yX12_cutAll cX12_cutAll none 0 0 159 [some (.ref 317), some (.int (iI ((n : Nat) : Int))), some (.int (iI ((k : Nat) : Int))), some (.int (iI c)), some (.int (iI ((a : Nat) : Int))), some (.long (lN (e10 s a (min (k - a) 3)))), none] [] M := by
  intro m
  induction m with
  | zero =>
    intro k hm hak hi
    obtain rfl : k = L := by omega
    refine r_iload2 (pc2 := 160) dX12_cutAll_159 rfl ?_
    refine r_aload0 (pc2 := 161) dX12_cutAll_160 rfl ?_
    refine r_getI (z := ((k : Nat) : Int)) (pc2 := 164) dX12_cutAll_161 rfl (Or.inl fX12_160) (hK_317 hS) hl ?_
    refine r_icge (tgt := 218) (pc2 := 167) dX12_cutAll_164 rfl (by decide) ⟨by omega, by omega⟩ ⟨by omega, by omega⟩ (fun b_164 => ?_) (fun b_164 => ?_)
    · exact hQ k hak (Nat.le_refl _) hi (Or.inl rfl)
    · exact absurd b_164 (by omega)
  | succ m ih =>
    intro k hm hak hi
    have hsk := hs k (by omega)
    have ih2 := ih (k + 1) (by omega) (by omega)
    refine r_iload2 (pc2 := 160) dX12_cutAll_159 rfl ?_
    refine r_aload0 (pc2 := 161) dX12_cutAll_160 rfl ?_
    refine r_getI (z := ((L : Nat) : Int)) (pc2 := 164) dX12_cutAll_161 rfl (Or.inl fX12_160) (hK_317 hS) hl ?_
    refine r_icge (tgt := 218) (pc2 := 167) dX12_cutAll_164 rfl (by decide) ⟨by omega, by omega⟩ ⟨by omega, by omega⟩ (fun b_164 => ?_) (fun b_164 => ?_)
    · exact absurd b_164 (by omega)
    · refine r_aload0 (pc2 := 168) dX12_cutAll_167 rfl ?_
      refine r_getR (pc2 := 171) dX12_cutAll_168 rfl fX12_14 (hK_317 hS) (hR_317_1 hS) ?_
      refine r_iload2 (pc2 := 172) dX12_cutAll_171 rfl ?_
      refine r_iald (z := (s k)) (pc2 := 173) dX12_cutAll_172 rfl (hK_318 hS) k rfl (by omega) hsk.1 ?_
      refine r_cs1 (pc2 := 176) dX12_cutAll_173 rfl sX12_169 (by decide) (c_X12_isDigit (d := d + 1) (c := s k) ⟨by omega, by omega⟩) ?_
      by_cases hq : 48 ≤ s k ∧ s k ≤ 57
      · rintro _ M9 ⟨rfl, h9⟩
        rw [h9, if_pos hq]
        show Go (Ct (d + 2)) _ yX12_cutAll cX12_cutAll none 0 0 176 [some (.ref 317), some (.int (iI ((n : Nat) : Int))), some (.int (iI ((k : Nat) : Int))), some (.int (iI c)), some (.int (iI ((a : Nat) : Int))), some (.long ((lN (e10 s a (min (k - a) 3))))), none] [.int (iI 1)] M
        refine r_ifeq (tgt := 218) (pc2 := 179) dX12_cutAll_176 rfl (by decide) ⟨by omega, by omega⟩ (fun h9 => absurd h9 (by decide)) (fun _ => ?_)
        refine r_iload2 (pc2 := 180) dX12_cutAll_179 rfl ?_
        refine r_iload4 (pc2 := 182) dX12_cutAll_180 rfl ?_
        refine r_isub (c := (((k : Nat) : Int) - ((a : Nat) : Int))) (pc2 := 183) dX12_cutAll_182 rfl rfl ?_
        refine r_iconst (pc2 := 184) dX12_cutAll_183 rfl ?_
        refine r_icge (tgt := 208) (pc2 := 187) dX12_cutAll_184 rfl (by decide) ⟨by omega, by omega⟩ ⟨by omega, by omega⟩ (fun b_184 => ?_) (fun b_184 => ?_)
        · refine r_lload5 (pc2 := 210) dX12_cutAll_208 rfl ?_
          refine r_lstore5 (pc2 := 212) dX12_cutAll_210 rfl rfl ?_
          refine r_iinc2 (z := ((k + 1 : Nat) : Int)) (pc2 := 215) dX12_cutAll_212 rfl (by omega) rfl ?_
          refine r_goto (tgt := 159) dX12_cutAll_215 (by decide) ?_
          have hi2 : ∀ q, a ≤ q → q < k + 1 → 48 ≤ s q ∧ s q ≤ 57 := fun q q1 q2 => by by_cases u : q = k; (subst u; exact hq); (exact hi q q1 (by omega))
          have h9 := ih2 hi2
          rw [show min (k + 1 - a) 3 = min (k - a) 3 by omega] at h9
          exact h9
        · refine r_ldc2 (pc2 := 190) dX12_cutAll_187 rfl lX12_172 ?_
          refine r_lload5 (pc2 := 192) dX12_cutAll_190 rfl ?_
          refine r_lmul (pc2 := 193) dX12_cutAll_192 rfl ?_
          refine r_aload0 (pc2 := 194) dX12_cutAll_193 rfl ?_
          refine r_getR (pc2 := 197) dX12_cutAll_194 rfl fX12_14 (hK_317 hS) (hR_317_1 hS) ?_
          refine r_iload2 (pc2 := 198) dX12_cutAll_197 rfl ?_
          refine r_iald (z := (s k)) (pc2 := 199) dX12_cutAll_198 rfl (hK_318 hS) k rfl (by omega) hsk.1 ?_
          refine r_i2l (pc2 := 200) dX12_cutAll_199 rfl ⟨by omega, by omega⟩ ?_
          refine r_ladd (pc2 := 201) dX12_cutAll_200 rfl ?_
          refine r_ldc2 (pc2 := 204) dX12_cutAll_201 rfl lX12_174 ?_
          refine r_lsub (pc2 := 205) dX12_cutAll_204 rfl ?_
          refine r_goto (tgt := 210) dX12_cutAll_205 (by decide) ?_
          refine r_lstore5 (pc2 := 212) dX12_cutAll_210 rfl rfl ?_
          refine r_iinc2 (z := ((k + 1 : Nat) : Int)) (pc2 := 215) dX12_cutAll_212 rfl (by omega) rfl ?_
          refine r_goto (tgt := 159) dX12_cutAll_215 (by decide) ?_
          have hi2 : ∀ q, a ≤ q → q < k + 1 → 48 ≤ s q ∧ s q ≤ 57 := fun q q1 q2 => by by_cases u : q = k; (subst u; exact hq); (exact hi q q1 (by omega))
          have h9 := ih2 hi2
          rw [show min (k + 1 - a) 3 = min (k - a) 3 + 1 by omega, e10, show a + min (k - a) 3 = k by omega, ← nm_step (by omega)] at h9
          exact h9
      · rintro _ M9 ⟨rfl, h9⟩
        rw [h9, if_neg hq]
        show Go (Ct (d + 2)) _ yX12_cutAll cX12_cutAll none 0 0 176 [some (.ref 317), some (.int (iI ((n : Nat) : Int))), some (.int (iI ((k : Nat) : Int))), some (.int (iI c)), some (.int (iI ((a : Nat) : Int))), some (.long ((lN (e10 s a (min (k - a) 3))))), none] [.int (iI 0)] M
        refine r_ifeq (tgt := 218) (pc2 := 179) dX12_cutAll_176 rfl (by decide) ⟨by omega, by omega⟩ (fun _ => ?_) (fun h9 => absurd h9 (by decide))
        exact hQ k hak (by omega) hi (Or.inr hq)
theorem MTk_new {M M2 : pM} {s : Nat → Int} {n a e : Nat} {la z : Int} {S E : Nat → Nat} (hT : MTk M s (n, la, S, E)) (h1 : M2.2.1 320 = va_up (M.2.1 320) n (a : Int)) (h2 : M2.2.1 319 = va_up (M.2.1 319) n z) {v : Int64} (h3 : M2.2.2 321 = va_up (M.2.2 321) n v) (hz : z = mSo (tKd s a e)) (hv : (tKd s a e = 19 → v = lN (e10 s a (e - a))) ∧ (isW (tKd s a e) → v = lN (m37 8 (e256 s a (e - a)))) ∧ (40 ≤ tKd s a e → v = jL (tKd s a e))) : MTk M2 s (n + 1, la, va_up S n a, va_up E n e) := by
  intro i hi
  have hi : i < n + 1 := hi
  show mTk M2 s (va_up S n a i) (va_up E n e i) i
  by_cases u : i = n
  · subst u
    rw [up_at, up_at]
    unfold mTk
    rw [h1, h2, h3, up_at, up_at, up_at]
    exact ⟨rfl, hz, hv⟩
  · rw [up_ne u, up_ne u]
    exact (hT i (by show i < n; omega)).of (by rw [h1, up_ne u]) (by rw [h2, up_ne u]) (by rw [h3, up_ne u])
theorem MTk.la {M : pM} {s : Nat → Int} {n : Nat} {la lb : Int} {S E : Nat → Nat} (h : MTk M s (n, la, S, E)) : MTk M s (n, lb, S, E) := h
set_option maxHeartbeats 8000000 in
theorem lp_X12_cutAll {d : Nat} {Q : pQ} {L : Nat} {s : Nat → Int} (M0 : pM) (hS0 : sOk M0.1) (hL : L ≤ 1000) (hl : M0.2.1 317 3 = (L : Int)) (hs : ∀ j, j < L → M0.2.1 318 j = s j ∧ 0 ≤ s j ∧ s j ≤ 126)
    (hQ : ∀ M2 (l3 l4 l5 l6 : Option Value), fr [319, 320, 321] M0 M2 → MTk M2 s (tk s L) → Go (Ct (d + 2)) Q yX12_cutAll cX12_cutAll none 0 0 279 [some (.ref 317), some (.int (iI (((tk s L).1 : Nat) : Int))), some (.int (iI ((L : Nat) : Int))), l3, l4, l5, l6] [] M2) :
    ∀ (m k : Nat) (M : pM) (l3 l4 l5 l6 : Option Value), L - k ≤ m → k ≤ L → pNc l3 = true → pNc l4 = true → fr [319, 320, 321] M0 M → MTk M s (tk s k) → (k = L ∨ ¬ (srt (s k) = (tk s k).2.1 ∧ (srt (s k) = 18 ∨ srt (s k) = 19))) →
      Go (Ct (d + 2)) Q yX12_cutAll cX12_cutAll none 0 0 17 [some (.ref 317), some (.int (iI (((tk s k).1 : Nat) : Int))), some (.int (iI ((k : Nat) : Int))), l3, l4, l5, l6] [] M := by
  intro m
  induction m with
  | zero =>
    intro k M l3 l4 l5 l6 hm hk p3 p4 hfr hT hnl
    obtain rfl : k = L := by omega
    have hS := hfr.ok hS0
    have hlm : M.2.1 317 3 = (k : Int) := by rw [hfr.i (by decide)]; exact hl
    refine r_iload2 (pc2 := 18) dX12_cutAll_17 rfl ?_
    refine r_aload0 (pc2 := 19) dX12_cutAll_18 rfl ?_
    refine r_getI (z := ((k : Nat) : Int)) (pc2 := 22) dX12_cutAll_19 rfl (Or.inl fX12_160) (hK_317 hS) hlm ?_
    refine r_icge (tgt := 279) (pc2 := 25) dX12_cutAll_22 rfl (by decide) ⟨by omega, by omega⟩ ⟨by omega, by omega⟩ (fun b_22 => ?_) (fun b_22 => ?_)
    · exact hQ M _ _ _ _ hfr hT
    · exact absurd b_22 (by omega)
  | succ m ih =>
    intro k M l3 l4 l5 l6 hm hk p3 p4 hfr hT hnl
    have hS := hfr.ok hS0
    have hlm : M.2.1 317 3 = (L : Int) := by rw [hfr.i (by decide)]; exact hl
    by_cases hkL : k = L
    · subst hkL
      refine r_iload2 (pc2 := 18) dX12_cutAll_17 rfl ?_
      refine r_aload0 (pc2 := 19) dX12_cutAll_18 rfl ?_
      refine r_getI (z := ((k : Nat) : Int)) (pc2 := 22) dX12_cutAll_19 rfl (Or.inl fX12_160) (hK_317 hS) hlm ?_
      refine r_icge (tgt := 279) (pc2 := 25) dX12_cutAll_22 rfl (by decide) ⟨by omega, by omega⟩ ⟨by omega, by omega⟩ (fun b_22 => ?_) (fun b_22 => ?_)
      · exact hQ M _ _ _ _ hfr hT
      · exact absurd b_22 (by omega)
    have hsk := hs k (by omega)
    have hck : M.2.1 318 k = s k := by rw [hfr.i (by decide)]; exact hsk.1
    have hr := srt_r (c := s k)
    have hI := tk_I s k
    have hn1 := hI.1
    have hnl2 : ¬ (srt (s k) = (tk s k).2.1 ∧ (srt (s k) = 18 ∨ srt (s k) = 19)) := hnl.resolve_left hkL
    refine r_iload2 (pc2 := 18) dX12_cutAll_17 rfl ?_
    refine r_aload0 (pc2 := 19) dX12_cutAll_18 rfl ?_
    refine r_getI (z := ((L : Nat) : Int)) (pc2 := 22) dX12_cutAll_19 rfl (Or.inl fX12_160) (hK_317 hS) hlm ?_
    refine r_icge (tgt := 279) (pc2 := 25) dX12_cutAll_22 rfl (by decide) ⟨by omega, by omega⟩ ⟨by omega, by omega⟩ (fun b_22 => ?_) (fun b_22 => ?_)
    · refine r_aload0 (pc2 := 280) dX12_cutAll_279 rfl ?_
      refine r_getR (pc2 := 283) dX12_cutAll_280 rfl fX12_24 (hK_317 hS) (hR_317_4 hS) ?_
      refine r_iload1 (pc2 := 284) dX12_cutAll_283 rfl ?_
      refine r_iconst (pc2 := 285) dX12_cutAll_284 rfl ?_
      refine r_iast (z := 0) (pc2 := 286) dX12_cutAll_285 rfl (hK_319 hS) (by decide) ((tk s k).1) rfl (by omega) ?_
      refine r_aload0 (pc2 := 287) dX12_cutAll_286 rfl ?_
      refine r_getR (pc2 := 290) dX12_cutAll_287 rfl fX12_27 (hK_317 hS) (hR_317_5 hS) ?_
      refine r_iload1 (pc2 := 291) dX12_cutAll_290 rfl ?_
      refine r_aload0 (pc2 := 292) dX12_cutAll_291 rfl ?_
      refine r_getI (z := ((L : Nat) : Int)) (pc2 := 295) dX12_cutAll_292 rfl (Or.inl fX12_160) (hK_317 hS) hlm ?_
      refine r_iast (z := ((L : Nat) : Int)) (pc2 := 296) dX12_cutAll_295 rfl (hK_320 hS) (by decide) ((tk s k).1) rfl (by omega) ?_
      refine r_aload0 (pc2 := 297) dX12_cutAll_296 rfl ?_
      refine r_iconst (pc2 := 298) dX12_cutAll_297 rfl ?_
      refine r_putI (z := 0) (pc2 := 301) dX12_cutAll_298 rfl fX12_179 (w12_7 _) (hK_317 hS) (by decide) ?_
      refine r_aload0 (pc2 := 302) dX12_cutAll_301 rfl ?_
      refine r_iconst (pc2 := 303) dX12_cutAll_302 rfl ?_
      refine r_putI (z := 0) (pc2 := 306) dX12_cutAll_303 rfl fX12_182 (w12_8 _) (hK_317 hS) (by decide) ?_
      refine r_ret dX12_cutAll_306 rfl ?_
      exact absurd b_22 (by omega)
    · refine r_aload0 (pc2 := 26) dX12_cutAll_25 rfl ?_
      refine r_getR (pc2 := 29) dX12_cutAll_26 rfl fX12_14 (hK_317 hS) (hR_317_1 hS) ?_
      refine r_iload2 (pc2 := 30) dX12_cutAll_29 rfl ?_
      refine r_iald (z := (s k)) (pc2 := 31) dX12_cutAll_30 rfl (hK_318 hS) k rfl (by omega) hck ?_
      refine r_istore3 (pc2 := 32) dX12_cutAll_31 rfl rfl ?_
      refine r_iload3 (pc2 := 33) dX12_cutAll_32 rfl ?_
      refine r_bipush (pc2 := 35) dX12_cutAll_33 rfl (by decide) (by decide) ?_
      refine r_iceq (tgt := 44) (pc2 := 38) dX12_cutAll_35 rfl (by decide) ⟨by omega, by omega⟩ ⟨by omega, by omega⟩ (fun b_35 => ?_) (fun b_35 => ?_)
      · refine r_iinc2 (z := ((k + 1 : Nat) : Int)) (pc2 := 47) dX12_cutAll_44 rfl (by omega) rfl ?_
        refine r_goto (tgt := 17) dX12_cutAll_47 (by decide) ?_
        have e9 : tk s (k + 1) = ((tk s k).1, 21, (tk s k).2.2.1, (tk s k).2.2.2) := by show tk1 s k (tk s k) = _; unfold tk1; rw [if_neg hnl2, if_pos (by omega)]
        have h9 := ih (k + 1) M (some (.int (iI (s k)))) l4 l5 l6 (by omega) (by omega) rfl p4 hfr (by rw [e9]; exact hT) (Or.inr (by rw [e9]; simp only; omega))
        rw [e9] at h9
        exact h9
      · refine r_iload3 (pc2 := 39) dX12_cutAll_38 rfl ?_
        refine r_bipush (pc2 := 41) dX12_cutAll_39 rfl (by decide) (by decide) ?_
        refine r_icne (tgt := 50) (pc2 := 44) dX12_cutAll_41 rfl (by decide) ⟨by omega, by omega⟩ ⟨by omega, by omega⟩ (fun b_41 => ?_) (fun b_41 => ?_)
        · refine r_iload2 (pc2 := 51) dX12_cutAll_50 rfl ?_
          refine r_istore4 (pc2 := 53) dX12_cutAll_51 rfl rfl ?_
          refine r_lconst (pc2 := 54) dX12_cutAll_53 rfl ?_
          refine r_lstore5 (pc2 := 56) dX12_cutAll_54 rfl rfl ?_
          refine r_aload0 (pc2 := 57) dX12_cutAll_56 rfl ?_
          refine r_getR (pc2 := 60) dX12_cutAll_57 rfl fX12_27 (hK_317 hS) (hR_317_5 hS) ?_
          refine r_iload1 (pc2 := 61) dX12_cutAll_60 rfl ?_
          refine r_iload2 (pc2 := 62) dX12_cutAll_61 rfl ?_
          refine r_iast (z := ((k : Nat) : Int)) (pc2 := 63) dX12_cutAll_62 rfl (hK_320 hS) (by decide) ((tk s k).1) rfl (by omega) ?_
          refine r_iload3 (pc2 := 64) dX12_cutAll_63 rfl ?_
          refine r_cs1 (pc2 := 67) dX12_cutAll_64 rfl sX12_156 (by decide) (c_X12_isLetter (d := d + 1) (c := s k) ⟨by omega, by omega⟩) ?_
          by_cases hq : 97 ≤ s k ∧ s k ≤ 122
          · rintro _ M9 ⟨rfl, h9⟩
            rw [h9, if_pos hq]
            show Go (Ct (d + 2)) _ yX12_cutAll cX12_cutAll none 0 0 67 [some (.ref 317), some (.int (iI (((tk s k).1 : Nat) : Int))), some (.int (iI ((k : Nat) : Int))), some (.int (iI (s k))), some (.int (iI ((k : Nat) : Int))), some (.long (0)), none] [.int (iI 1)] (pI M 320 ((tk s k).1) ((k : Nat) : Int))
            refine r_ifeq (tgt := 152) (pc2 := 70) dX12_cutAll_67 rfl (by decide) ⟨by omega, by omega⟩ (fun h9 => absurd h9 (by decide)) (fun _ => ?_)
            have h8 := lpl_X12_cutAll (d := d) (Q := Q) (L := L) (a := k) (n := (tk s k).1) (c := s k) (s := s) (M := (pI M 320 ((tk s k).1) ((k : Nat) : Int))) hS hL hlm (fun j hj => by rw [pI_ne (by decide), hfr.i (by decide)]; exact hs j hj) (fun k2 hk2 hk2L hlet hend => ?_) (L - k) k (by omega) (Nat.le_refl _) (fun q q1 q2 => by omega)
            · rw [show min (k - k) 8 = 0 by omega] at h8
              exact h8
            have hk3 : k < k2 := by
              rcases (show k = k2 ∨ k < k2 by omega) with u | u
              · subst u; exact absurd hq (hend.resolve_left hkL)
              · exact u
            have e9 : tk s k2 = ((tk s k).1 + 1, 18, va_up (tk s k).2.2.1 (tk s k).1 k, va_up (tk s k).2.2.2 (tk s k).1 k2) := by
              have := tk_run (s := s) (a := k) (z := 18) (by omega) (fun q => hnl2 ⟨by omega, by omega⟩) (k2 - k - 1) (fun q hq9 => srt_r.1.mpr (hlet (k + q) (by omega) (by omega)))
              rw [show k + (k2 - k - 1) + 1 = k2 by omega] at this
              exact this
            refine r_aload0 (pc2 := 130) dX12_cutAll_129 rfl ?_
            refine r_getR (pc2 := 133) dX12_cutAll_130 rfl fX12_24 (hK_317 hS) (hR_317_4 hS) ?_
            refine r_iload1 (pc2 := 134) dX12_cutAll_133 rfl ?_
            refine r_iload2 (pc2 := 135) dX12_cutAll_134 rfl ?_
            refine r_iload4 (pc2 := 137) dX12_cutAll_135 rfl ?_
            refine r_isub (c := (((k2 : Nat) : Int) - ((k : Nat) : Int))) (pc2 := 138) dX12_cutAll_137 rfl rfl ?_
            refine r_bipush (pc2 := 140) dX12_cutAll_138 rfl (by decide) (by decide) ?_
            refine r_icle (tgt := 147) (pc2 := 143) dX12_cutAll_140 rfl (by decide) ⟨by omega, by omega⟩ ⟨by omega, by omega⟩ (fun b_140 => ?_) (fun b_140 => ?_)
            · refine r_iconst (pc2 := 148) dX12_cutAll_147 rfl ?_
              refine r_iast (z := 1) (pc2 := 149) dX12_cutAll_148 rfl (hK_319 hS) (by decide) ((tk s k).1) rfl (by omega) ?_
              refine r_goto (tgt := 265) dX12_cutAll_149 (by decide) ?_
              refine r_aload0 (pc2 := 266) dX12_cutAll_265 rfl ?_
              refine r_getR (pc2 := 269) dX12_cutAll_266 rfl fX12_30 (hK_317 hS) (hR_317_6 hS) ?_
              refine r_iload1 (pc2 := 270) dX12_cutAll_269 rfl ?_
              refine r_lload5 (pc2 := 272) dX12_cutAll_270 rfl ?_
              refine r_last (pc2 := 273) dX12_cutAll_272 rfl (hK_321 hS) (by decide) ((tk s k).1) rfl (by omega) ?_
              refine r_iinc1 (z := (((tk s k).1 + 1 : Nat) : Int)) (pc2 := 276) dX12_cutAll_273 rfl (by omega) rfl ?_
              refine r_goto (tgt := 17) dX12_cutAll_276 (by decide) ?_
              have ek : tKd s k k2 = wKd (e256 s k (k2 - k)) := by rw [tKd, if_pos (by omega), if_pos (by omega)]
              have h9 := ih k2 (pJ (pI (pI M 320 ((tk s k).1) ((k : Nat) : Int)) 319 ((tk s k).1) 1) 321 ((tk s k).1) ((lN (e37 s k (min (k2 - k) 8))))) (some (.int (iI (s k)))) (some (.int (iI ((k : Nat) : Int)))) (some (.long (lN (e37 s k (min (k2 - k) 8))))) none (by omega) hk2L rfl rfl (((hfr.I (by decide)).I (by decide)).J (by decide)) (by rw [e9]; exact MTk_new (la := 18) (v := lN (e37 s k (min (k2 - k) 8))) hT.la rfl rfl rfl (by rw [ek]; have hw9 := wKd_r (e256 s k (k2 - k)); unfold mSo; (repeat' split) <;> omega) ⟨fun q => by have := wKd_r (e256 s k (k2 - k)); omega, fun _ => by rw [e256_m37 (k2 - k) 8 (by omega) (fun i hi => hlet (k + i) (by omega) (by omega)), show min (k2 - k) 8 = k2 - k by omega], fun q => by have := wKd_r (e256 s k (k2 - k)); omega⟩) (hend.imp id (fun q q2 => q (srt_r.1.mp (by rw [e9] at q2; exact q2.1))))
              rw [e9] at h9
              exact h9
            · refine r_iconst (pc2 := 144) dX12_cutAll_143 rfl ?_
              refine r_goto (tgt := 148) dX12_cutAll_144 (by decide) ?_
              refine r_iast (z := 4) (pc2 := 149) dX12_cutAll_148 rfl (hK_319 hS) (by decide) ((tk s k).1) rfl (by omega) ?_
              refine r_goto (tgt := 265) dX12_cutAll_149 (by decide) ?_
              refine r_aload0 (pc2 := 266) dX12_cutAll_265 rfl ?_
              refine r_getR (pc2 := 269) dX12_cutAll_266 rfl fX12_30 (hK_317 hS) (hR_317_6 hS) ?_
              refine r_iload1 (pc2 := 270) dX12_cutAll_269 rfl ?_
              refine r_lload5 (pc2 := 272) dX12_cutAll_270 rfl ?_
              refine r_last (pc2 := 273) dX12_cutAll_272 rfl (hK_321 hS) (by decide) ((tk s k).1) rfl (by omega) ?_
              refine r_iinc1 (z := (((tk s k).1 + 1 : Nat) : Int)) (pc2 := 276) dX12_cutAll_273 rfl (by omega) rfl ?_
              refine r_goto (tgt := 17) dX12_cutAll_276 (by decide) ?_
              have ek : tKd s k k2 = 20 := by rw [tKd, if_pos (by omega), if_neg (by omega)]
              have h9 := ih k2 (pJ (pI (pI M 320 ((tk s k).1) ((k : Nat) : Int)) 319 ((tk s k).1) 4) 321 ((tk s k).1) ((lN (e37 s k (min (k2 - k) 8))))) (some (.int (iI (s k)))) (some (.int (iI ((k : Nat) : Int)))) (some (.long (lN (e37 s k (min (k2 - k) 8))))) none (by omega) hk2L rfl rfl (((hfr.I (by decide)).I (by decide)).J (by decide)) (by rw [e9]; exact MTk_new (la := 18) (v := lN (e37 s k (min (k2 - k) 8))) hT.la rfl rfl rfl (by rw [ek]; have hw9 := wKd_r (e256 s k (k2 - k)); unfold mSo; (repeat' split) <;> omega) ⟨fun q => by omega, fun q => by unfold isW at q; omega, fun q => by omega⟩) (hend.imp id (fun q q2 => q (srt_r.1.mp (by rw [e9] at q2; exact q2.1))))
              rw [e9] at h9
              exact h9
          · rintro _ M9 ⟨rfl, h9⟩
            rw [h9, if_neg hq]
            show Go (Ct (d + 2)) _ yX12_cutAll cX12_cutAll none 0 0 67 [some (.ref 317), some (.int (iI (((tk s k).1 : Nat) : Int))), some (.int (iI ((k : Nat) : Int))), some (.int (iI (s k))), some (.int (iI ((k : Nat) : Int))), some (.long (0)), none] [.int (iI 0)] (pI M 320 ((tk s k).1) ((k : Nat) : Int))
            refine r_ifeq (tgt := 152) (pc2 := 70) dX12_cutAll_67 rfl (by decide) ⟨by omega, by omega⟩ (fun _ => ?_) (fun h9 => absurd h9 (by decide))
            refine r_iload3 (pc2 := 153) dX12_cutAll_152 rfl ?_
            refine r_cs1 (pc2 := 156) dX12_cutAll_153 rfl sX12_169 (by decide) (c_X12_isDigit (d := d + 1) (c := s k) ⟨by omega, by omega⟩) ?_
            by_cases hq2 : 48 ≤ s k ∧ s k ≤ 57
            · rintro _ M9 ⟨rfl, h9⟩
              rw [h9, if_pos hq2]
              show Go (Ct (d + 2)) _ yX12_cutAll cX12_cutAll none 0 0 156 [some (.ref 317), some (.int (iI (((tk s k).1 : Nat) : Int))), some (.int (iI ((k : Nat) : Int))), some (.int (iI (s k))), some (.int (iI ((k : Nat) : Int))), some (.long (0)), none] [.int (iI 1)] (pI M 320 ((tk s k).1) ((k : Nat) : Int))
              refine r_ifeq (tgt := 240) (pc2 := 159) dX12_cutAll_156 rfl (by decide) ⟨by omega, by omega⟩ (fun h9 => absurd h9 (by decide)) (fun _ => ?_)
              have h8 := lpd_X12_cutAll (d := d) (Q := Q) (L := L) (a := k) (n := (tk s k).1) (c := s k) (s := s) (M := (pI M 320 ((tk s k).1) ((k : Nat) : Int))) hS hL hlm (fun j hj => by rw [pI_ne (by decide), hfr.i (by decide)]; exact hs j hj) (fun k2 hk2 hk2L hlet hend => ?_) (L - k) k (by omega) (Nat.le_refl _) (fun q q1 q2 => by omega)
              · rw [show min (k - k) 3 = 0 by omega] at h8
                exact h8
              have hk3 : k < k2 := by
                rcases (show k = k2 ∨ k < k2 by omega) with u | u
                · subst u; exact absurd hq2 (hend.resolve_left hkL)
                · exact u
              have e9 : tk s k2 = ((tk s k).1 + 1, 19, va_up (tk s k).2.2.1 (tk s k).1 k, va_up (tk s k).2.2.2 (tk s k).1 k2) := by
                have := tk_run (s := s) (a := k) (z := 19) (by omega) (fun q => hnl2 ⟨by omega, by omega⟩) (k2 - k - 1) (fun q hq9 => srt_r.2.1.mpr (hlet (k + q) (by omega) (by omega)))
                rw [show k + (k2 - k - 1) + 1 = k2 by omega] at this
                exact this
              refine r_aload0 (pc2 := 219) dX12_cutAll_218 rfl ?_
              refine r_getR (pc2 := 222) dX12_cutAll_219 rfl fX12_24 (hK_317 hS) (hR_317_4 hS) ?_
              refine r_iload1 (pc2 := 223) dX12_cutAll_222 rfl ?_
              refine r_iload2 (pc2 := 224) dX12_cutAll_223 rfl ?_
              refine r_iload4 (pc2 := 226) dX12_cutAll_224 rfl ?_
              refine r_isub (c := (((k2 : Nat) : Int) - ((k : Nat) : Int))) (pc2 := 227) dX12_cutAll_226 rfl rfl ?_
              refine r_iconst (pc2 := 228) dX12_cutAll_227 rfl ?_
              refine r_icle (tgt := 235) (pc2 := 231) dX12_cutAll_228 rfl (by decide) ⟨by omega, by omega⟩ ⟨by omega, by omega⟩ (fun b_228 => ?_) (fun b_228 => ?_)
              · refine r_iconst (pc2 := 236) dX12_cutAll_235 rfl ?_
                refine r_iast (z := 2) (pc2 := 237) dX12_cutAll_236 rfl (hK_319 hS) (by decide) ((tk s k).1) rfl (by omega) ?_
                refine r_goto (tgt := 265) dX12_cutAll_237 (by decide) ?_
                refine r_aload0 (pc2 := 266) dX12_cutAll_265 rfl ?_
                refine r_getR (pc2 := 269) dX12_cutAll_266 rfl fX12_30 (hK_317 hS) (hR_317_6 hS) ?_
                refine r_iload1 (pc2 := 270) dX12_cutAll_269 rfl ?_
                refine r_lload5 (pc2 := 272) dX12_cutAll_270 rfl ?_
                refine r_last (pc2 := 273) dX12_cutAll_272 rfl (hK_321 hS) (by decide) ((tk s k).1) rfl (by omega) ?_
                refine r_iinc1 (z := (((tk s k).1 + 1 : Nat) : Int)) (pc2 := 276) dX12_cutAll_273 rfl (by omega) rfl ?_
                refine r_goto (tgt := 17) dX12_cutAll_276 (by decide) ?_
                have ek : tKd s k k2 = 19 := by rw [tKd, if_neg (by omega), if_pos (by omega), if_pos (by omega)]
                have h9 := ih k2 (pJ (pI (pI M 320 ((tk s k).1) ((k : Nat) : Int)) 319 ((tk s k).1) 2) 321 ((tk s k).1) ((lN (e10 s k (min (k2 - k) 3))))) (some (.int (iI (s k)))) (some (.int (iI ((k : Nat) : Int)))) (some (.long (lN (e10 s k (min (k2 - k) 3))))) none (by omega) hk2L rfl rfl (((hfr.I (by decide)).I (by decide)).J (by decide)) (by rw [e9]; exact MTk_new (la := 19) (v := lN (e10 s k (min (k2 - k) 3))) hT.la rfl rfl rfl (by rw [ek]; have hw9 := wKd_r (e256 s k (k2 - k)); unfold mSo; (repeat' split) <;> omega) ⟨fun _ => by rw [show min (k2 - k) 3 = k2 - k by omega], fun q => by unfold isW at q; omega, fun q => by omega⟩) (hend.imp id (fun q q2 => q (srt_r.2.1.mp (by rw [e9] at q2; exact q2.1))))
                rw [e9] at h9
                exact h9
              · refine r_iconst (pc2 := 232) dX12_cutAll_231 rfl ?_
                refine r_goto (tgt := 236) dX12_cutAll_232 (by decide) ?_
                refine r_iast (z := 4) (pc2 := 237) dX12_cutAll_236 rfl (hK_319 hS) (by decide) ((tk s k).1) rfl (by omega) ?_
                refine r_goto (tgt := 265) dX12_cutAll_237 (by decide) ?_
                refine r_aload0 (pc2 := 266) dX12_cutAll_265 rfl ?_
                refine r_getR (pc2 := 269) dX12_cutAll_266 rfl fX12_30 (hK_317 hS) (hR_317_6 hS) ?_
                refine r_iload1 (pc2 := 270) dX12_cutAll_269 rfl ?_
                refine r_lload5 (pc2 := 272) dX12_cutAll_270 rfl ?_
                refine r_last (pc2 := 273) dX12_cutAll_272 rfl (hK_321 hS) (by decide) ((tk s k).1) rfl (by omega) ?_
                refine r_iinc1 (z := (((tk s k).1 + 1 : Nat) : Int)) (pc2 := 276) dX12_cutAll_273 rfl (by omega) rfl ?_
                refine r_goto (tgt := 17) dX12_cutAll_276 (by decide) ?_
                have ek : tKd s k k2 = 20 := by rw [tKd, if_neg (by omega), if_pos (by omega), if_neg (by omega)]
                have h9 := ih k2 (pJ (pI (pI M 320 ((tk s k).1) ((k : Nat) : Int)) 319 ((tk s k).1) 4) 321 ((tk s k).1) ((lN (e10 s k (min (k2 - k) 3))))) (some (.int (iI (s k)))) (some (.int (iI ((k : Nat) : Int)))) (some (.long (lN (e10 s k (min (k2 - k) 3))))) none (by omega) hk2L rfl rfl (((hfr.I (by decide)).I (by decide)).J (by decide)) (by rw [e9]; exact MTk_new (la := 19) (v := lN (e10 s k (min (k2 - k) 3))) hT.la rfl rfl rfl (by rw [ek]; have hw9 := wKd_r (e256 s k (k2 - k)); unfold mSo; (repeat' split) <;> omega) ⟨fun q => by omega, fun q => by unfold isW at q; omega, fun q => by omega⟩) (hend.imp id (fun q q2 => q (srt_r.2.1.mp (by rw [e9] at q2; exact q2.1))))
                rw [e9] at h9
                exact h9
            · rintro _ M9 ⟨rfl, h9⟩
              rw [h9, if_neg hq2]
              show Go (Ct (d + 2)) _ yX12_cutAll cX12_cutAll none 0 0 156 [some (.ref 317), some (.int (iI (((tk s k).1 : Nat) : Int))), some (.int (iI ((k : Nat) : Int))), some (.int (iI (s k))), some (.int (iI ((k : Nat) : Int))), some (.long (0)), none] [.int (iI 0)] (pI M 320 ((tk s k).1) ((k : Nat) : Int))
              refine r_ifeq (tgt := 240) (pc2 := 159) dX12_cutAll_156 rfl (by decide) ⟨by omega, by omega⟩ (fun _ => ?_) (fun h9 => absurd h9 (by decide))
              refine r_iload3 (pc2 := 241) dX12_cutAll_240 rfl ?_
              refine r_i2l (pc2 := 242) dX12_cutAll_241 rfl ⟨by omega, by omega⟩ ?_
              refine r_lstore5 (pc2 := 244) dX12_cutAll_242 rfl rfl ?_
              refine r_aload0 (pc2 := 245) dX12_cutAll_244 rfl ?_
              refine r_getR (pc2 := 248) dX12_cutAll_245 rfl fX12_24 (hK_317 hS) (hR_317_4 hS) ?_
              refine r_iload1 (pc2 := 249) dX12_cutAll_248 rfl ?_
              refine r_iload3 (pc2 := 250) dX12_cutAll_249 rfl ?_
              refine r_cs1 (pc2 := 253) dX12_cutAll_250 rfl sX12_176 (Nat.le_of_ble_eq_true rfl) (c_X12_isSignOf (d := d + 1) (c := s k) ⟨by omega, by omega⟩) ?_
              by_cases hq3 : s k = 40 ∨ s k = 41 ∨ s k = 59 ∨ s k = 45
              · rintro _ M9 ⟨rfl, h9⟩
                rw [h9, if_pos hq3]
                show Go (Ct (d + 2)) _ yX12_cutAll cX12_cutAll none 0 0 253 [some (.ref 317), some (.int (iI (((tk s k).1 : Nat) : Int))), some (.int (iI ((k : Nat) : Int))), some (.int (iI (s k))), some (.int (iI ((k : Nat) : Int))), some (.long (jL (s k))), none] [.int (iI 1), .int (iI (((tk s k).1 : Nat) : Int)), .ref 319] (pI M 320 ((tk s k).1) ((k : Nat) : Int))
                refine r_ifeq (tgt := 260) (pc2 := 256) dX12_cutAll_253 rfl (by decide) ⟨by omega, by omega⟩ (fun h9 => absurd h9 (by decide)) (fun _ => ?_)
                refine r_iconst (pc2 := 257) dX12_cutAll_256 rfl ?_
                refine r_goto (tgt := 261) dX12_cutAll_257 (by decide) ?_
                refine r_iast (z := 3) (pc2 := 262) dX12_cutAll_261 rfl (hK_319 hS) (by decide) ((tk s k).1) rfl (by omega) ?_
                refine r_iinc2 (z := ((k + 1 : Nat) : Int)) (pc2 := 265) dX12_cutAll_262 rfl (by omega) rfl ?_
                refine r_aload0 (pc2 := 266) dX12_cutAll_265 rfl ?_
                refine r_getR (pc2 := 269) dX12_cutAll_266 rfl fX12_30 (hK_317 hS) (hR_317_6 hS) ?_
                refine r_iload1 (pc2 := 270) dX12_cutAll_269 rfl ?_
                refine r_lload5 (pc2 := 272) dX12_cutAll_270 rfl ?_
                refine r_last (pc2 := 273) dX12_cutAll_272 rfl (hK_321 hS) (by decide) ((tk s k).1) rfl (by omega) ?_
                refine r_iinc1 (z := (((tk s k).1 + 1 : Nat) : Int)) (pc2 := 276) dX12_cutAll_273 rfl (by omega) rfl ?_
                refine r_goto (tgt := 17) dX12_cutAll_276 (by decide) ?_
                have e9 : tk s (k + 1) = ((tk s k).1 + 1, srt (s k), va_up (tk s k).2.2.1 (tk s k).1 k, va_up (tk s k).2.2.2 (tk s k).1 (k + 1)) := by show tk1 s k (tk s k) = _; unfold tk1; rw [if_neg hnl2, if_neg (by omega)]
                have hsr : srt (s k) = s k := by unfold srt; rw [if_neg hq, if_neg hq2, if_neg (by omega), if_pos (by omega)]
                have ek : tKd s k (k + 1) = srt (s k) := by unfold tKd; rw [if_neg (by omega), if_neg (by omega)]
                have h9 := ih (k + 1) (pJ (pI (pI M 320 ((tk s k).1) ((k : Nat) : Int)) 319 ((tk s k).1) 3) 321 ((tk s k).1) (jL (s k))) (some (.int (iI (s k)))) (some (.int (iI ((k : Nat) : Int)))) (some (.long (jL (s k)))) none (by omega) (by omega) rfl rfl (((hfr.I (by decide)).I (by decide)).J (by decide)) (by rw [e9]; exact MTk_new (la := srt (s k)) (v := jL (s k)) hT.la rfl rfl rfl (by rw [ek]; unfold mSo; (repeat' split) <;> omega) ⟨fun q => by omega, fun q => by unfold isW at q; omega, fun q => by rw [ek, hsr]⟩) (Or.inr (by rw [e9]; simp only; omega))
                rw [e9] at h9
                exact h9
              · rintro _ M9 ⟨rfl, h9⟩
                rw [h9, if_neg hq3]
                show Go (Ct (d + 2)) _ yX12_cutAll cX12_cutAll none 0 0 253 [some (.ref 317), some (.int (iI (((tk s k).1 : Nat) : Int))), some (.int (iI ((k : Nat) : Int))), some (.int (iI (s k))), some (.int (iI ((k : Nat) : Int))), some (.long (jL (s k))), none] [.int (iI 0), .int (iI (((tk s k).1 : Nat) : Int)), .ref 319] (pI M 320 ((tk s k).1) ((k : Nat) : Int))
                refine r_ifeq (tgt := 260) (pc2 := 256) dX12_cutAll_253 rfl (by decide) ⟨by omega, by omega⟩ (fun _ => ?_) (fun h9 => absurd h9 (by decide))
                refine r_iconst (pc2 := 261) dX12_cutAll_260 rfl ?_
                refine r_iast (z := 4) (pc2 := 262) dX12_cutAll_261 rfl (hK_319 hS) (by decide) ((tk s k).1) rfl (by omega) ?_
                refine r_iinc2 (z := ((k + 1 : Nat) : Int)) (pc2 := 265) dX12_cutAll_262 rfl (by omega) rfl ?_
                refine r_aload0 (pc2 := 266) dX12_cutAll_265 rfl ?_
                refine r_getR (pc2 := 269) dX12_cutAll_266 rfl fX12_30 (hK_317 hS) (hR_317_6 hS) ?_
                refine r_iload1 (pc2 := 270) dX12_cutAll_269 rfl ?_
                refine r_lload5 (pc2 := 272) dX12_cutAll_270 rfl ?_
                refine r_last (pc2 := 273) dX12_cutAll_272 rfl (hK_321 hS) (by decide) ((tk s k).1) rfl (by omega) ?_
                refine r_iinc1 (z := (((tk s k).1 + 1 : Nat) : Int)) (pc2 := 276) dX12_cutAll_273 rfl (by omega) rfl ?_
                refine r_goto (tgt := 17) dX12_cutAll_276 (by decide) ?_
                have e9 : tk s (k + 1) = ((tk s k).1 + 1, srt (s k), va_up (tk s k).2.2.1 (tk s k).1 k, va_up (tk s k).2.2.2 (tk s k).1 (k + 1)) := by show tk1 s k (tk s k) = _; unfold tk1; rw [if_neg hnl2, if_neg (by omega)]
                have hsr : srt (s k) = 20 := by unfold srt; rw [if_neg hq, if_neg hq2, if_neg (by omega), if_neg (by omega)]
                have ek : tKd s k (k + 1) = srt (s k) := by unfold tKd; rw [if_neg (by omega), if_neg (by omega)]
                have h9 := ih (k + 1) (pJ (pI (pI M 320 ((tk s k).1) ((k : Nat) : Int)) 319 ((tk s k).1) 4) 321 ((tk s k).1) (jL (s k))) (some (.int (iI (s k)))) (some (.int (iI ((k : Nat) : Int)))) (some (.long (jL (s k)))) none (by omega) (by omega) rfl rfl (((hfr.I (by decide)).I (by decide)).J (by decide)) (by rw [e9]; exact MTk_new (la := srt (s k)) (v := jL (s k)) hT.la rfl rfl rfl (by rw [ek]; unfold mSo; (repeat' split) <;> omega) ⟨fun q => by omega, fun q => by unfold isW at q; omega, fun q => by omega⟩) (Or.inr (by rw [e9]; simp only; omega))
                rw [e9] at h9
                exact h9
        · refine r_iinc2 (z := ((k + 1 : Nat) : Int)) (pc2 := 47) dX12_cutAll_44 rfl (by omega) rfl ?_
          refine r_goto (tgt := 17) dX12_cutAll_47 (by decide) ?_
          have e9 : tk s (k + 1) = ((tk s k).1, 21, (tk s k).2.2.1, (tk s k).2.2.2) := by show tk1 s k (tk s k) = _; unfold tk1; rw [if_neg hnl2, if_pos (by omega)]
          have h9 := ih (k + 1) M (some (.int (iI (s k)))) l4 l5 l6 (by omega) (by omega) rfl p4 hfr (by rw [e9]; exact hT) (Or.inr (by rw [e9]; simp only; omega))
          rw [e9] at h9
          exact h9
