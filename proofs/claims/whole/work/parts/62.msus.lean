/-! the model's suspects (sights 48, sightHopper 347, sightHow 348, suspects 51, suspect 349, nextHow 350) -/
def ML (D : bD) (M : pM) (S : sS) : Prop := M.2.1 317 51 = (S.1 : Int) ∧ ∀ i, i < S.1 → M.2.1 349 i = (S.2 i).1 ∧ ∀ h, h < 4 → M.2.1 350 (4 * i + h) = sEn D S h i
def frV (M M2 : pM) : Prop := fr [317, 328, 329, 330, 331, 332, 333, 334, 349, 350] M M2 ∧ (∀ j, j ≠ 51 → M2.2.1 317 j = M.2.1 317 j) ∧ (∀ j, j < 4056 → M2.2.1 328 j = M.2.1 328 j ∧ M2.2.1 329 j = M.2.1 329 j ∧ M2.2.1 330 j = M.2.1 330 j) ∧ (∀ j, j < 338 → M2.2.1 331 j = M.2.1 331 j) ∧ ∀ j, j < 104 → M2.2.1 332 j = M.2.1 332 j ∧ M2.2.1 333 j = M.2.1 333 j ∧ M2.2.1 334 j = M.2.1 334 j
theorem frV.rf {M : pM} : frV M M := ⟨fr.rf, fun _ _ => rfl, fun _ _ => ⟨rfl, rfl, rfl⟩, fun _ _ => rfl, fun _ _ => ⟨rfl, rfl, rfl⟩⟩
theorem frV.tr {M M1 M2 : pM} (h : frV M M1) (h2 : frV M1 M2) : frV M M2 :=
  ⟨h.1.tr h2.1, fun j hj => (h2.2.1 j hj).trans (h.2.1 j hj), fun j hj => ⟨(h2.2.2.1 j hj).1.trans (h.2.2.1 j hj).1, (h2.2.2.1 j hj).2.1.trans (h.2.2.1 j hj).2.1, (h2.2.2.1 j hj).2.2.trans (h.2.2.1 j hj).2.2⟩, fun j hj => (h2.2.2.2.1 j hj).trans (h.2.2.2.1 j hj), fun j hj => ⟨(h2.2.2.2.2 j hj).1.trans (h.2.2.2.2 j hj).1, (h2.2.2.2.2 j hj).2.1.trans (h.2.2.2.2 j hj).2.1, (h2.2.2.2.2 j hj).2.2.trans (h.2.2.2.2 j hj).2.2⟩⟩
theorem frV.cp {M M2 : pM} {s t : Nat} (h : mCp M M2 s t) (ht : 26 ≤ t) : frV M M2 := by
  obtain ⟨h0, h1, h2, h3, h4, h5, h6, h7⟩ := h
  refine ⟨h0.mono (by decide), fun j _ => by rw [h0.i (by decide)], fun j hj => ⟨?_, ?_, ?_⟩, fun j hj => ?_, fun j hj => ⟨?_, ?_, ?_⟩⟩
  · rw [h1, sB_out (by omega)]
  · rw [h2, sB_out (by omega)]
  · rw [h3, sB_out (by omega)]
  · rw [h4, sB_out (by omega)]
  · rw [h5, sB_out (by omega)]
  · rw [h6, sB_out (by omega)]
  · rw [h7, sB_out (by omega)]
theorem frV.bd {M M2 : pM} {b : Nat} {g : Nat → Int} (hb : 26 ≤ b) (h : fr [330] M M2) (e : M2.2.1 330 = sB (M.2.1 330) 156 b g) : frV M M2 :=
  ⟨h.mono (by decide), fun j _ => by rw [h.i (by decide)], fun j hj => ⟨by rw [h.i (by decide)], by rw [h.i (by decide)], by rw [e, sB_out (by omega)]⟩, fun j _ => by rw [h.i (by decide)], fun j _ => ⟨by rw [h.i (by decide)], by rw [h.i (by decide)], by rw [h.i (by decide)]⟩⟩
theorem frV.of {M M2 : pM} (h : fr [317, 349, 350] M M2) (h2 : ∀ j, j ≠ 51 → M2.2.1 317 j = M.2.1 317 j) : frV M M2 :=
  ⟨h.mono (by decide), h2, fun j _ => ⟨by rw [h.i (by decide)], by rw [h.i (by decide)], by rw [h.i (by decide)]⟩, fun j _ => by rw [h.i (by decide)], fun j _ => ⟨by rw [h.i (by decide)], by rw [h.i (by decide)], by rw [h.i (by decide)]⟩⟩
theorem ML.of {D : bD} {M M2 : pM} {S : sS} (h : ML D M S) (h1 : M2.2.1 317 51 = M.2.1 317 51) (h2 : M2.2.1 349 = M.2.1 349) (h3 : ∀ j, j < 4 * S.1 → M2.2.1 350 j = M.2.1 350 j) : ML D M2 S := ⟨by rw [h1]; exact h.1, fun i hi => ⟨by rw [h2]; exact (h.2 i hi).1, fun q hq => by rw [h3 _ (by omega)]; exact (h.2 i hi).2 q hq⟩⟩
def sgM (M : pM) (n : Nat) (ho : Nat → Nat) (hw : Nat → Int) : Prop := M.2.1 317 48 = (n : Int) ∧ n ≤ 60 ∧ ∀ i, i < n → M.2.1 347 i = ((ho i : Nat) : Int) ∧ M.2.1 348 i = hw i ∧ inR (hw i)
theorem sgM.fv {M M2 : pM} {n : Nat} {ho : Nat → Nat} {hw : Nat → Int} (h : sgM M n ho hw) (hf : frV M M2) : sgM M2 n ho hw := ⟨by rw [hf.2.1 48 (by decide)]; exact h.1, h.2.1, fun i hi => by rw [hf.1.i (by decide), hf.1.i (by decide)]; exact h.2.2 i hi⟩
theorem MD.fv {M M2 : pM} {i : Nat} {D : bD} {sh : Nat → Int} (h : MD M i D sh) (hf : frV M M2) (hi : i < 26) : MD M2 i D sh := by
  obtain ⟨h1, h2, h3⟩ := h
  refine ⟨fun q hq => ?_, fun q hq => ?_, fun q hq => ?_⟩
  · have := hf.2.2.1 (156 * i + q) (by omega)
    rw [this.1, this.2.1, this.2.2]; exact h1 q hq
  · have := hf.2.2.2.2 (4 * i + q) (by omega)
    rw [this.1, this.2.1, this.2.2]; exact h2 q hq
  · rw [hf.2.2.2.1 (13 * i + q) (by omega)]; exact h3 q hq
theorem MD.ms2 {M : pM} {i s : Nat} {D : bD} {sh : Nat → Int} (h : MD M i D sh) (e : ∀ q, q < 156 → M.2.1 335 (156 * s + q) = bT D q) : MS M i s D := ⟨fun q hq => ⟨(h.1 q hq).1, (h.1 q hq).2.1, e q hq⟩, h.2.1, h.2.2⟩

set_option maxHeartbeats 4000000 in
theorem lp_X12_suspects {d : Nat} {Q : pQ} {s n : Nat} {st nu : Int} {l6 l7 : Option Value} {D : bD} {ho : Nat → Nat} {hw : Nat → Int} {R : Option (Nat → Int)} (M0 : pM) (hS0 : sOk M0.1) (hB0 : MS M0 26 0 D) (hD : bOk D) (hst : -2 ≤ st ∧ st < 156) (hg0 : sgM M0 n ho hw) (hh : ∀ i, ho i < 4)
    (hQ1 : ∀ M2 g, fr [330] M0 M2 → M2.2.1 330 = sB (M0.2.1 330) 156 26 g → R = none → Q none M2)
    (hQ2 : ∀ M2 t (l5 : Option Value), fr [330] M0 M2 → M2.2.1 330 = sB (M0.2.1 330) 156 26 t → R = some t → Go (Ct (d + 3)) Q yX12_suspects cX12_suspects none 0 0 67 [some (.ref 317), some (.int (iI ((s : Nat) : Int))), some (.int (iI nu)), some (.int (iI st)), some (.int (iI 1)), l5, l6, l7] [] M2) :
    ∀ (m i : Nat) (sh : Nat → Int) (M : pM), i + m = n → bK D sh → fr [330] M0 M → M.2.1 330 = sB (M0.2.1 330) 156 26 sh → wg D st ho hw m i sh = R →
      Go (Ct (d + 3)) Q yX12_suspects cX12_suspects none 0 0 15 [some (.ref 317), some (.int (iI ((s : Nat) : Int))), some (.int (iI nu)), some (.int (iI st)), some (.int (iI 1)), some (.int (iI ((i : Nat) : Int))), l6, l7] [] M := by
  have hn60 := hg0.2.1
  intro m
  induction m with
  | zero =>
    intro i sh M hm hk hfr h330 hR
    obtain rfl : i = n := by omega
    have hS := hfr.ok hS0
    have hn : M.2.1 317 48 = (i : Int) := by rw [hfr.i (by decide)]; exact hg0.1
    rw [wg] at hR
    refine r_iload5 (pc2 := 17) dX12_suspects_15 rfl ?_
    refine r_aload0 (pc2 := 18) dX12_suspects_17 rfl ?_
    refine r_getI (z := ((i : Nat) : Int)) (pc2 := 21) dX12_suspects_18 rfl (Or.inl fX12_394) (hK_317 hS) hn ?_
    refine r_icge (tgt := 67) (pc2 := 24) dX12_suspects_21 rfl (by decide) ⟨by omega, by omega⟩ ⟨by omega, by omega⟩ (fun b_21 => ?_) (fun b_21 => ?_)
    · exact hQ2 M sh _ hfr h330 hR.symm
    · exact absurd b_21 (by omega)
  | succ m ih =>
    intro i sh M hm hk hfr h330 hR
    have hS := hfr.ok hS0
    have hn : M.2.1 317 48 = (n : Int) := by rw [hfr.i (by decide)]; exact hg0.1
    have hgi := hg0.2.2 i (by omega)
    have hi1 : M.2.1 347 i = ((ho i : Nat) : Int) := by rw [hfr.i (by decide)]; exact hgi.1
    obtain ⟨hi3, hi4⟩ := hgi.2.2
    have hd1 := bH_K (st := st) hD (hh i) hk
    rw [wg] at hR
    refine r_iload5 (pc2 := 17) dX12_suspects_15 rfl ?_
    refine r_aload0 (pc2 := 18) dX12_suspects_17 rfl ?_
    refine r_getI (z := ((n : Nat) : Int)) (pc2 := 21) dX12_suspects_18 rfl (Or.inl fX12_394) (hK_317 hS) hn ?_
    refine r_icge (tgt := 67) (pc2 := 24) dX12_suspects_21 rfl (by decide) ⟨by omega, by omega⟩ ⟨by omega, by omega⟩ (fun b_21 => ?_) (fun b_21 => ?_)
    · exact absurd b_21 (by omega)
    · refine r_iload4 (pc2 := 26) dX12_suspects_24 rfl ?_
      refine r_ifeq (tgt := 67) (pc2 := 29) dX12_suspects_26 rfl (by decide) ⟨by omega, by omega⟩ (fun h9 => absurd h9 (by decide)) (fun _ => ?_)
      refine r_aload0 (pc2 := 30) dX12_suspects_29 rfl ?_
      refine r_bipush (pc2 := 32) dX12_suspects_30 rfl (by decide) (by decide) ?_
      refine r_iconst (pc2 := 33) dX12_suspects_32 rfl ?_
      refine r_aload0 (pc2 := 34) dX12_suspects_33 rfl ?_
      refine r_getR (pc2 := 37) dX12_suspects_34 rfl fX12_144 (hK_317 hS) (hR_317_49 hS) ?_
      refine r_iload5 (pc2 := 39) dX12_suspects_37 rfl ?_
      refine r_iald (z := ((ho i : Nat) : Int)) (pc2 := 40) dX12_suspects_39 rfl (hK_347 hS) i rfl (by omega) hi1 ?_
      refine r_iload3 (pc2 := 41) dX12_suspects_40 rfl ?_
      refine r_cv4 (pc2 := 44) dX12_suspects_41 rfl vX12_312 (hK_317 hS) (by decide) (MS_drop (d := d) (i := 26) (s := 0) (st := st) (hB0.of (fun q hq => hfr.i (by revert hq; simp only [List.mem_cons, List.not_mem_nil, or_false]; omega))) hS (by decide) (by decide) hD (hh i) hk (fun q hq => by rw [h330, sB_in hq]) hst) ?_
      rintro _ M8 ⟨rfl, f8, e8⟩
      have hf8 : fr [330] M0 M8 := hfr.tr f8
      have e8b : M8.2.1 330 = sB (M0.2.1 330) 156 26 (bH D st sh (ho i)).2 := by rw [e8, h330, sB_sB]
      have hi8 : M8.2.1 348 i = hw i := by rw [hf8.i (by decide)]; exact hgi.2.1
      have hn8 : M8.2.1 317 48 = (n : Int) := by rw [hf8.i (by decide)]; exact hg0.1
      show Go (Ct (d + 3)) _ yX12_suspects cX12_suspects none 0 0 44 [some (.ref 317), some (.int (iI ((s : Nat) : Int))), some (.int (iI nu)), some (.int (iI st)), some (.int (iI 1)), some (.int (iI ((i : Nat) : Int))), l6, l7] [.int (iI (bH D st sh (ho i)).1)] M8
      refine r_aload0 (pc2 := 45) dX12_suspects_44 rfl ?_
      refine r_getR (pc2 := 48) dX12_suspects_45 rfl fX12_147 (hK_317 (hf8.ok hS0)) (hR_317_50 (hf8.ok hS0)) ?_
      refine r_iload5 (pc2 := 50) dX12_suspects_48 rfl ?_
      refine r_iald (z := (hw i)) (pc2 := 51) dX12_suspects_50 rfl (hK_348 (hf8.ok hS0)) i rfl (by omega) hi8 ?_
      refine r_icne (tgt := 58) (pc2 := 54) dX12_suspects_51 rfl (by decide) ⟨by omega, by omega⟩ ⟨by omega, by omega⟩ (fun b_51 => ?_) (fun b_51 => ?_)
      · refine r_iconst (pc2 := 59) dX12_suspects_58 rfl ?_
        refine r_istore4 (pc2 := 61) dX12_suspects_59 rfl rfl ?_
        refine r_iinc5 (z := ((i + 1 : Nat) : Int)) (pc2 := 64) dX12_suspects_61 rfl (by omega) rfl ?_
        refine r_goto (tgt := 15) dX12_suspects_64 (by decide) ?_
        refine r_iload5 (pc2 := 17) dX12_suspects_15 rfl ?_
        refine r_aload0 (pc2 := 18) dX12_suspects_17 rfl ?_
        refine r_getI (z := ((n : Nat) : Int)) (pc2 := 21) dX12_suspects_18 rfl (Or.inl fX12_394) (hK_317 (hf8.ok hS0)) hn8 ?_
        refine r_icge (tgt := 67) (pc2 := 24) dX12_suspects_21 rfl (by decide) ⟨by omega, by omega⟩ ⟨by omega, by omega⟩ (fun b_21 => ?_) (fun b_21 => ?_)
        · refine r_iload4 (pc2 := 69) dX12_suspects_67 rfl ?_
          refine r_ifeq (tgt := 147) (pc2 := 72) dX12_suspects_69 rfl (by decide) ⟨by omega, by omega⟩ (fun _ => ?_) (fun h9 => absurd h9 (by decide))
          refine r_ret dX12_suspects_147 rfl ?_
          rw [if_neg b_51] at hR
          exact hQ1 M8 _ hf8 e8b hR.symm
        · refine r_iload4 (pc2 := 26) dX12_suspects_24 rfl ?_
          refine r_ifeq (tgt := 67) (pc2 := 29) dX12_suspects_26 rfl (by decide) ⟨by omega, by omega⟩ (fun _ => ?_) (fun h9 => absurd h9 (by decide))
          refine r_iload4 (pc2 := 69) dX12_suspects_67 rfl ?_
          refine r_ifeq (tgt := 147) (pc2 := 72) dX12_suspects_69 rfl (by decide) ⟨by omega, by omega⟩ (fun _ => ?_) (fun h9 => absurd h9 (by decide))
          refine r_ret dX12_suspects_147 rfl ?_
          rw [if_neg b_51] at hR
          exact hQ1 M8 _ hf8 e8b hR.symm
      · refine r_iconst (pc2 := 55) dX12_suspects_54 rfl ?_
        refine r_goto (tgt := 59) dX12_suspects_55 (by decide) ?_
        refine r_istore4 (pc2 := 61) dX12_suspects_59 rfl rfl ?_
        refine r_iinc5 (z := ((i + 1 : Nat) : Int)) (pc2 := 64) dX12_suspects_61 rfl (by omega) rfl ?_
        refine r_goto (tgt := 15) dX12_suspects_64 (by decide) ?_
        rw [if_pos (by omega)] at hR
        exact ih (i + 1) _ M8 (by omega) hd1.1 hf8 e8b hR
set_option maxHeartbeats 4000000 in
theorem lp2_X12_suspects {d : Nat} {Q : pQ} {s : Nat} {st nu : Int} {l4 : Option Value} {D : bD} {S : sS} {t : Nat → Int} (M0 : pM) (hS0 : sOk M0.1) (hB0 : MS M0 26 0 D) (hD : bOk D) (hst : -2 ≤ st ∧ st < 156) (ht : bK D t) (hS156 : S.1 ≤ 156) (hsu0 : M0.2.1 317 51 = (S.1 : Int))
    (hQ : ∀ M2 g, fr [330, 350] M0 M2 → M2.2.1 330 = sB (M0.2.1 330) 156 26 g → (∀ j, j < 4 * S.1 → M2.2.1 350 j = M0.2.1 350 j) → (∀ h, h < 4 → M2.2.1 350 (4 * S.1 + h) = (bH D st t h).1) → Go (Ct (d + 3)) Q yX12_suspects cX12_suspects none 0 0 127 [some (.ref 317), some (.int (iI ((s : Nat) : Int))), some (.int (iI nu)), some (.int (iI st)), l4, some (.long (lN (cdN D.1.1 t 156))), none, some (.int (iI 4))] [] M2) :
    ∀ (m h : Nat) (g : Nat → Int) (M : pM), h + m = 4 → bK D g → fr [330, 350] M0 M → M.2.1 330 = sB (M0.2.1 330) 156 26 g → (∀ j, j < 4 * S.1 → M.2.1 350 j = M0.2.1 350 j) → (∀ k, k < h → M.2.1 350 (4 * S.1 + k) = (bH D st t k).1) →
      Go (Ct (d + 3)) Q yX12_suspects cX12_suspects none 0 0 83 [some (.ref 317), some (.int (iI ((s : Nat) : Int))), some (.int (iI nu)), some (.int (iI st)), l4, some (.long (lN (cdN D.1.1 t 156))), none, some (.int (iI ((h : Nat) : Int)))] [] M := by
  intro m
  induction m with
  | zero =>
    intro h g M hm hk hfr h330 hj hv
    obtain rfl : h = 4 := by omega
    refine r_iload7 (pc2 := 85) dX12_suspects_83 rfl ?_
    refine r_iconst (pc2 := 86) dX12_suspects_85 rfl ?_
    refine r_icge (tgt := 127) (pc2 := 89) dX12_suspects_86 rfl (by decide) ⟨by omega, by omega⟩ ⟨by omega, by omega⟩ (fun _ => ?_) (fun h9 => absurd h9 (by decide))
    exact hQ M g hfr h330 hj hv
  | succ m ih =>
    intro h g M hm hk hfr h330 hj hv
    have hS := hfr.ok hS0
    refine r_iload7 (pc2 := 85) dX12_suspects_83 rfl ?_
    refine r_iconst (pc2 := 86) dX12_suspects_85 rfl ?_
    refine r_icge (tgt := 127) (pc2 := 89) dX12_suspects_86 rfl (by decide) ⟨by omega, by omega⟩ ⟨by omega, by omega⟩ (fun b_86 => ?_) (fun b_86 => ?_)
    · refine r_aload0 (pc2 := 128) dX12_suspects_127 rfl ?_
      refine r_getR (pc2 := 131) dX12_suspects_128 rfl fX12_150 (hK_317 hS) (hR_317_52 hS) ?_
      refine r_aload0 (pc2 := 132) dX12_suspects_131 rfl ?_
      refine r_getI (z := (M.2.1 317 51)) (pc2 := 135) dX12_suspects_132 rfl (Or.inl fX12_397) (hK_317 hS) rfl ?_
      refine r_iload2 (pc2 := 136) dX12_suspects_135 rfl ?_
      refine r_iast (z := nu) (pc2 := 137) dX12_suspects_136 rfl (hK_349 hS) (by decide) ((M.2.1 317 51)).toNat (by omega) (by omega) ?_
      refine r_aload0 (pc2 := 138) dX12_suspects_137 rfl ?_
      refine r_dup (pc2 := 139) dX12_suspects_138 rfl rfl ?_
      refine r_getI (z := (M.2.1 317 51)) (pc2 := 142) dX12_suspects_139 rfl (Or.inl fX12_397) (hK_317 hS) rfl ?_
      refine r_iconst (pc2 := 143) dX12_suspects_142 rfl ?_
      refine r_iadd (c := ((M.2.1 317 51) + 1)) (pc2 := 144) dX12_suspects_143 rfl rfl ?_
      refine r_putI (z := ((M.2.1 317 51) + 1)) (pc2 := 147) dX12_suspects_144 rfl fX12_397 (w12_51 _) (hK_317 hS) (by decide) ?_
      refine r_ret dX12_suspects_147 rfl ?_
      exact absurd b_86 (by omega)
    · refine r_aload0 (pc2 := 90) dX12_suspects_89 rfl ?_
      refine r_bipush (pc2 := 92) dX12_suspects_90 rfl (by decide) (by decide) ?_
      refine r_lload5 (pc2 := 94) dX12_suspects_92 rfl ?_
      refine r_cv2 (pc2 := 97) dX12_suspects_94 rfl vX12_363 (hK_317 hS) (by decide) (MS_uncode (d := d + 1) (i := 26) (s := 0) (sh := t) (s2 := g) (hB0.of (fun q hq => hfr.i (by revert hq; simp only [List.mem_cons, List.not_mem_nil, or_false]; omega))) hS (by decide) hD ht hk (fun q hq => by rw [h330, sB_in hq])) ?_
      rintro _ M5 ⟨rfl, f5, e5⟩
      have hf5 : fr [330, 350] M0 M5 := hfr.tr (f5.mono (by decide))
      have e5b : M5.2.1 330 = sB (M0.2.1 330) 156 26 t := by rw [e5, h330, sB_sB]
      have hsu5 : M5.2.1 317 51 = (S.1 : Int) := by rw [hf5.i (by decide)]; exact hsu0
      show Go (Ct (d + 3)) _ yX12_suspects cX12_suspects none 0 0 97 [some (.ref 317), some (.int (iI ((s : Nat) : Int))), some (.int (iI nu)), some (.int (iI st)), l4, some (.long ((lN (cdN D.1.1 t 156)))), none, some (.int (iI ((h : Nat) : Int)))] [] M5
      refine r_aload0 (pc2 := 98) dX12_suspects_97 rfl ?_
      refine r_getR (pc2 := 101) dX12_suspects_98 rfl fX12_153 (hK_317 (hf5.ok hS0)) (hR_317_53 (hf5.ok hS0)) ?_
      refine r_iconst (pc2 := 102) dX12_suspects_101 rfl ?_
      refine r_aload0 (pc2 := 103) dX12_suspects_102 rfl ?_
      refine r_getI (z := ((S.1 : Nat) : Int)) (pc2 := 106) dX12_suspects_103 rfl (Or.inl fX12_397) (hK_317 (hf5.ok hS0)) hsu5 ?_
      refine r_imul (c := ((4 * S.1 : Nat) : Int)) (pc2 := 107) dX12_suspects_106 rfl (by omega) ?_
      refine r_iload7 (pc2 := 109) dX12_suspects_107 rfl ?_
      refine r_iadd (c := (((4 * S.1 + h) : Nat) : Int)) (pc2 := 110) dX12_suspects_109 rfl (by omega) ?_
      refine r_aload0 (pc2 := 111) dX12_suspects_110 rfl ?_
      refine r_bipush (pc2 := 113) dX12_suspects_111 rfl (by decide) (by decide) ?_
      refine r_iconst (pc2 := 114) dX12_suspects_113 rfl ?_
      refine r_iload7 (pc2 := 116) dX12_suspects_114 rfl ?_
      refine r_iload3 (pc2 := 117) dX12_suspects_116 rfl ?_
      refine r_cv4 (pc2 := 120) dX12_suspects_117 rfl vX12_312 (hK_317 (hf5.ok hS0)) (Nat.le_of_ble_eq_true rfl) (MS_drop (d := d) (i := 26) (s := 0) (st := st) (hB0.of (fun q hq => hf5.i (by revert hq; simp only [List.mem_cons, List.not_mem_nil, or_false]; omega))) (hf5.ok hS0) (by decide) (by decide) hD (by omega) ht (fun q hq => by rw [e5b, sB_in hq]) hst) ?_
      rintro _ M8 ⟨rfl, f8, e8⟩
      have hf8 : fr [330, 350] M0 M8 := hf5.tr (f8.mono (by decide))
      have e8b : M8.2.1 330 = sB (M0.2.1 330) 156 26 (bH D st t h).2 := by rw [e8, e5b, sB_sB]
      have e350 : M8.2.1 350 = M.2.1 350 := by rw [f8.i (by decide), f5.i (by decide)]
      show Go (Ct (d + 3)) _ yX12_suspects cX12_suspects none 0 0 120 [some (.ref 317), some (.int (iI ((s : Nat) : Int))), some (.int (iI nu)), some (.int (iI st)), l4, some (.long ((lN (cdN D.1.1 t 156)))), none, some (.int (iI ((h : Nat) : Int)))] [.int (iI (bH D st t h).1), .int (iI (((4 * S.1 + h) : Nat) : Int)), .ref 350] M8
      refine r_iast (z := (bH D st t h).1) (pc2 := 121) dX12_suspects_120 rfl (hK_350 (hf8.ok hS0)) (by decide) ((4 * S.1 + h)) rfl (by omega) ?_
      refine r_iinc7 (z := ((h + 1 : Nat) : Int)) (pc2 := 124) dX12_suspects_121 rfl (by omega) rfl ?_
      refine r_goto (tgt := 83) dX12_suspects_124 (by decide) ?_
      refine ih (h + 1) (bH D st t h).2 _ (by omega) (bH_K hD (by omega) ht).1 (hf8.I (by decide)) e8b (fun j h9 => ?_) (fun k h9 => ?_)
      · rw [pI_nk (by omega), e350]; exact hj j h9
      · by_cases u : k = h
        · subst u; exact pI_at
        · rw [pI_nk (by omega), e350]; exact hv k (by omega)
set_option maxHeartbeats 4000000 in
theorem c_X12_suspects {d : Nat} {M : pM} {s n : Nat} {st nu : Int} {D : bD} {ho : Nat → Nat} {hw sh : Nat → Int} {S : sS} (hS : sOk M.1) (hs4 : s < 4) (hB : MD M (1 + s) D sh) (hT : ∀ q, q < 156 → M.2.1 335 (156 * 0 + q) = bT D q) (hD : bOk D) (hs : bK D sh) (hst : -2 ≤ st ∧ st < 156) (hg : sgM M n ho hw) (hh : ∀ i, ho i < 4) (hL : ML D M S) (hS156 : S.1 ≤ 156) : Ct (d + 4) 0 0 yX12_suspects [.ref 317, .int (iI ((s : Nat) : Int)), .int (iI nu), .int (iI st)] M (fun v M2 => v = none ∧ frV M M2 ∧ ML D M2 (sus1 D ho hw n sh st nu S)) := by
  refine ct_in (d := (d + 3)) kX12_suspects rfl (by decide) (Nat.le_of_ble_eq_true rfl) (by decide) ?_
  show Go (Ct (d + 3)) _ yX12_suspects cX12_suspects none 0 0 0 [some (.ref 317), some (.int (iI ((s : Nat) : Int))), some (.int (iI nu)), some (.int (iI st)), none, none, none, none] [] M
  refine r_aload0 (pc2 := 1) dX12_suspects_0 rfl ?_
  refine r_iconst (pc2 := 2) dX12_suspects_1 rfl ?_
  refine r_iload1 (pc2 := 3) dX12_suspects_2 rfl ?_
  refine r_iadd (c := ((1 + s : Nat) : Int)) (pc2 := 4) dX12_suspects_3 rfl (by omega) ?_
  refine r_bipush (pc2 := 6) dX12_suspects_4 rfl (by decide) (by decide) ?_
  refine r_cv2 (pc2 := 9) dX12_suspects_6 rfl vX12_256 (hK_317 hS) (by decide) (c_X12_copies (d := d + 2) (s := 1 + s) (t := 26) hS (by omega) (by decide)) ?_
  rintro _ M1 ⟨rfl, hc1⟩
  have g1 : frV M M1 := frV.cp hc1 (by decide)
  have m1 : MD M1 26 D sh := hB.cp hc1
  have m1b : MS M1 26 0 D := m1.ms2 (fun q hq => by rw [hc1.1.i (by decide)]; exact hT q hq)
  show Go (Ct (d + 3)) _ yX12_suspects cX12_suspects none 0 0 9 [some (.ref 317), some (.int (iI ((s : Nat) : Int))), some (.int (iI nu)), some (.int (iI st)), none, none, none, none] [] M1
  refine r_iconst (pc2 := 10) dX12_suspects_9 rfl ?_
  refine r_istore4 (pc2 := 12) dX12_suspects_10 rfl rfl ?_
  refine r_iconst (pc2 := 13) dX12_suspects_12 rfl ?_
  refine r_istore5 (pc2 := 15) dX12_suspects_13 rfl rfl ?_
  refine lp_X12_suspects (d := d) (R := wg D st ho hw n 0 sh) (n := n) (ho := ho) (hw := hw) M1 (g1.1.ok hS) m1b hD hst (hg.fv g1) hh (fun M2 g hf2 e2 hR => ?_) (fun M2 t l5 hf2 e2 hR => ?_) n 0 sh M1 (by omega) hs fr.rf (sB_of (fun q hq => (m1.1 q hq).2.2)) rfl
  · refine ⟨rfl, g1.tr (frV.bd (by decide) hf2 e2), ?_⟩
    rw [sus1, hR]
    exact hL.of (by rw [hf2.i (by decide), hc1.1.i (by decide)]) (by rw [hf2.i (by decide), hc1.1.i (by decide)]) (fun j _ => by rw [hf2.i (by decide), hc1.1.i (by decide)])
  have htk : bK D t := wg_K hD hh n 0 sh t hs hR
  have hsu2 : M2.2.1 317 51 = (S.1 : Int) := by rw [hf2.i (by decide), hc1.1.i (by decide)]; exact hL.1
  refine r_iload4 (pc2 := 69) dX12_suspects_67 rfl ?_
  refine r_ifeq (tgt := 147) (pc2 := 72) dX12_suspects_69 rfl (by decide) ⟨by omega, by omega⟩ (fun h9 => absurd h9 (by decide)) (fun _ => ?_)
  refine r_aload0 (pc2 := 73) dX12_suspects_72 rfl ?_
  refine r_bipush (pc2 := 75) dX12_suspects_73 rfl (by decide) (by decide) ?_
  refine r_cv1 (pc2 := 78) dX12_suspects_75 rfl vX12_340 (hK_317 (hf2.ok (g1.1.ok hS))) (by decide) (MS_code (d := d + 1) (i := 26) (s := 0) (sh := t) (m1b.of (fun q hq => hf2.i (by revert hq; simp only [List.mem_cons, List.not_mem_nil, or_false]; omega))) (hf2.ok (g1.1.ok hS)) (by decide) hD htk (fun q hq => by rw [e2, sB_in hq])) ?_
  rintro _ M3 ⟨rfl, h3⟩
  rw [h3]
  show Go (Ct (d + 3)) _ yX12_suspects cX12_suspects none 0 0 78 [some (.ref 317), some (.int (iI ((s : Nat) : Int))), some (.int (iI nu)), some (.int (iI st)), some (.int (iI 1)), l5, none, none] [.long ((lN (cdN D.1.1 t 156)))] M2
  refine r_lstore5 (pc2 := 80) dX12_suspects_78 rfl rfl ?_
  refine r_iconst (pc2 := 81) dX12_suspects_80 rfl ?_
  refine r_istore7 (pc2 := 83) dX12_suspects_81 rfl rfl ?_
  refine lp2_X12_suspects (d := d) (S := S) (t := t) M2 (hf2.ok (g1.1.ok hS)) (m1b.of (fun q hq => hf2.i (by revert hq; simp only [List.mem_cons, List.not_mem_nil, or_false]; omega))) hD hst htk (by omega) hsu2 (fun M4 g hf4 e4 j4 v4 => ?_) 4 0 t M2 (by omega) htk fr.rf (by rw [e2, sB_sB]) (fun j _ => rfl) (fun k hk => absurd hk (by omega))
  have hsu4 : M4.2.1 317 51 = (S.1 : Int) := by rw [hf4.i (by decide)]; exact hsu2
  refine r_aload0 (pc2 := 128) dX12_suspects_127 rfl ?_
  refine r_getR (pc2 := 131) dX12_suspects_128 rfl fX12_150 (hK_317 (hf4.ok (hf2.ok (g1.1.ok hS)))) (hR_317_52 (hf4.ok (hf2.ok (g1.1.ok hS)))) ?_
  refine r_aload0 (pc2 := 132) dX12_suspects_131 rfl ?_
  refine r_getI (z := ((S.1 : Nat) : Int)) (pc2 := 135) dX12_suspects_132 rfl (Or.inl fX12_397) (hK_317 (hf4.ok (hf2.ok (g1.1.ok hS)))) hsu4 ?_
  refine r_iload2 (pc2 := 136) dX12_suspects_135 rfl ?_
  refine r_iast (z := nu) (pc2 := 137) dX12_suspects_136 rfl (hK_349 (hf4.ok (hf2.ok (g1.1.ok hS)))) (by decide) (S.1) rfl (by omega) ?_
  refine r_aload0 (pc2 := 138) dX12_suspects_137 rfl ?_
  refine r_dup (pc2 := 139) dX12_suspects_138 rfl rfl ?_
  refine r_getI (z := ((S.1 : Nat) : Int)) (pc2 := 142) dX12_suspects_139 rfl (Or.inl fX12_397) (hK_317 (hf4.ok (hf2.ok (g1.1.ok hS)))) hsu4 ?_
  refine r_iconst (pc2 := 143) dX12_suspects_142 rfl ?_
  refine r_iadd (c := ((S.1 + 1 : Nat) : Int)) (pc2 := 144) dX12_suspects_143 rfl (by omega) ?_
  refine r_putI (z := ((S.1 + 1 : Nat) : Int)) (pc2 := 147) dX12_suspects_144 rfl fX12_397 (w12_51 _) (hK_317 (hf4.ok (hf2.ok (g1.1.ok hS)))) (by decide) ?_
  refine r_ret dX12_suspects_147 rfl ?_
  have hf5 : fr [317, 349, 350] M4 (pI (pI M4 349 (S.1) nu) 317 51 ((S.1 + 1 : Nat) : Int)) := ((fr.rf.I (by decide)).I (by decide))
  refine ⟨rfl, ((g1.tr (frV.bd (by decide) hf2 e2)).tr (frV.tr (M1 := M4) ⟨hf4.mono (by decide), fun j _ => by rw [hf4.i (by decide)], fun j hj => ⟨by rw [hf4.i (by decide)], by rw [hf4.i (by decide)], by rw [e4, sB_out (by omega)]⟩, fun j _ => by rw [hf4.i (by decide)], fun j _ => ⟨by rw [hf4.i (by decide)], by rw [hf4.i (by decide)], by rw [hf4.i (by decide)]⟩⟩ (frV.of hf5 (fun j hj => pI_nk hj)))), ?_⟩
  rw [sus1, hR]
  refine ⟨pI_at, fun i hi => ?_⟩
  have hi : i < S.1 + 1 := hi
  show va_up (M4.2.1 349) S.1 nu i = (va_up S.2 S.1 (nu, st, t) i).1 ∧ ∀ h, h < 4 → M4.2.1 350 (4 * i + h) = (bH D (va_up S.2 S.1 (nu, st, t) i).2.1 (va_up S.2 S.1 (nu, st, t) i).2.2 h).1
  by_cases e : i = S.1
  · subst e; rw [up_at, up_at]; exact ⟨rfl, v4⟩
  · rw [up_ne e, up_ne e, hf4.i (by decide), hf2.i (by decide), hc1.1.i (by decide)]
    refine ⟨(hL.2 i (by omega)).1, fun h hh9 => ?_⟩
    rw [j4 _ (by omega), hf2.i (by decide), hc1.1.i (by decide)]
    exact (hL.2 i (by omega)).2 h hh9
