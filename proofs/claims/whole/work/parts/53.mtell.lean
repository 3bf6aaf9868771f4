/-! the model's tellsApart: boards 26 and 27 -/
def KQ (D E : bD) (k : (Nat → Int) × (Nat → Int)) (v w : Int64) : Prop := v = lN (cdN D.1.1 k.1 156) ∧ w = lN (cdN E.1.1 k.2 156) ∧ bK D k.1 ∧ bK E k.2
theorem KQ.key {D E : bD} {k k2 : (Nat → Int) × (Nat → Int)} {v w v2 w2 : Int64} (hD : bOk D) (hE : bOk E) (h : KQ D E k v w) (h2 : KQ D E k2 v2 w2) : (v = v2 ∧ w = w2) ↔ k = k2 := by
  obtain ⟨rfl, rfl, a3, a4⟩ := h
  obtain ⟨rfl, rfl, b3, b4⟩ := h2
  rw [cdN_key hD.2.2 a3 b3, cdN_key hE.2.2 a4 b4]
  exact ⟨fun q => Prod.ext q.1 q.2, fun q => by rw [q]; exact ⟨rfl, rfl⟩⟩
theorem pI_self {M : pM} {a k : Nat} {z : Int} (h : M.2.1 a k = z) : pI M a k z = M := by
  unfold pI
  have : pU M.2.1 a k z = M.2.1 := by
    funext b
    unfold pU
    split
    · rename_i e; subst e; exact up_id h
    · rfl
  rw [this]
/-- the two boards for trying have gone on -/
def frU (M M2 : pM) : Prop := fr [317, 330, 338, 339, 340, 341, 342] M M2 ∧ (∀ j, j ≠ 38 → M2.2.1 317 j = M.2.1 317 j) ∧ ∀ j, j < 4056 → M2.2.1 330 j = M.2.1 330 j
theorem frU.rf {M : pM} : frU M M := ⟨fr.rf, fun _ _ => rfl, fun _ _ => rfl⟩
theorem frU.tr {M M1 M2 : pM} (h : frU M M1) (h2 : frU M1 M2) : frU M M2 := ⟨h.1.tr h2.1, fun j hj => (h2.2.1 j hj).trans (h.2.1 j hj), fun j hj => (h2.2.2 j hj).trans (h.2.2 j hj)⟩
theorem frU.bd {M M2 : pM} {b : Nat} {g : Nat → Int} (hb : 26 ≤ b) (h : fr [330] M M2) (e : M2.2.1 330 = sB (M.2.1 330) 156 b g) : frU M M2 := ⟨h.mono (by decide), fun j _ => by rw [h.i (by decide)], fun j hj => by rw [e, sB_out (by omega)]⟩
theorem frU.cu {M M2 : pM} {z : Int} (h : fr [317, 338, 339, 340, 341, 342] M M2) (e : M2.2.1 317 = va_up (M.2.1 317) 38 z) : frU M M2 := ⟨h.mono (by decide), fun j hj => by rw [e, up_ne hj], fun j _ => by rw [h.i (by decide)]⟩
theorem MS.fu {M M2 : pM} {i s : Nat} {D : bD} (h : MS M i s D) (hf : frU M M2) : MS M2 i s D := h.of (fun a ha => hf.1.i (by revert ha; simp only [List.mem_cons, List.not_mem_nil, or_false]; omega))
theorem TN.of {M M2 : pM} {n : Nat} {A B : Nat → Int64} (h : TN M n A B) (hf : fr [330, 344] M M2) : TN M2 n A B := by
  obtain ⟨h1, h2, h3, h4, h5⟩ := h
  refine ⟨by rw [hf.i (by decide)]; exact h1, h2, fun i hi => by rw [hf.j (by decide), hf.j (by decide)]; exact h3 i hi, fun c hc => by rw [hf.i (by decide)]; exact h4 c hc, h5.congr (fun c _ => ?_) (fun _ _ => ⟨rfl, rfl⟩)⟩
  unfold occM
  rw [hf.i (by decide)]

set_option maxHeartbeats 8000000 in
theorem lp_X12_tellsApart {d : Nat} {Q : pQ} {a b : Int} {D E : bD} {F : Int × (Nat → Int)} (M0 : pM) (hS0 : sOk M0.1) (hB0 : MS M0 26 0 D) (hC0 : MS M0 27 1 E) (hD : bOk D) (hE : bOk E) (hw0 : M0.2.1 317 44 = 0)
    (hQ : ∀ M M2, frU M0 M → fr [344] (pI M 317 44 F.1) M2 → (∀ j : Nat, (j : Int) < F.1 → M2.2.1 344 j = F.2 j) → Q none M2) :
    ∀ (m i h n : Nat) (K : Nat → (Nat → Int) × (Nat → Int)) (P H : Nat → Int) (A B : Nat → Int64) (M : pM) (s2 t2 : Nat → Int), 5 * i + h + m = 15000 → i < n → h ≤ 4 → frU M0 M → TN M n A B → n ≤ 3000 → (∀ j, j < n → KQ D E (K j) (A j) (B j)) → PHo n P → (∀ j, j < n → M.2.1 340 j = P j ∧ M.2.1 341 j = H j) → bK D s2 → bK E t2 → (∀ p, p < 156 → M.2.1 330 (156 * 26 + p) = s2 p ∧ M.2.1 330 (156 * 27 + p) = t2 p) → bfs (tlA D E) (tlN D E) (fun _ => False) 0 m i h n K P H = F →
      Go (Ct (d + 3)) Q yX12_tellsApart cX12_tellsApart none 0 0 80 [some (.ref 317), some (.int (iI a)), some (.int (iI b)), some (.int (iI 1)), some (.int (iI ((i : Nat) : Int))), some (.int (iI ((h : Nat) : Int)))] [] M := by
  intro m
  induction m with
  | zero => intro i h n K P H A B M s2 t2 hm hin hh hfr hN hn3; omega
  | succ m ih =>
    intro i h n K P H A B M s2 t2 hm hin hh hfr hN hn3 hK hP hPe hs2 ht2 hsh hF
    have hS := hfr.1.ok hS0
    have hKi := hK i hin
    have hAi := hN.2.2.1 i hin
    have hA1 : M.2.2 338 i = lN (cdN D.1.1 (K i).1 156) := hAi.1.trans hKi.1
    have hsz : M.2.1 317 38 = (n : Int) := hN.1
    have hw : M.2.1 317 44 = 0 := (hfr.2.1 44 (by decide)).trans hw0
    by_cases h4 : h = 4
    · subst h4
      refine r_iload5 (pc2 := 82) dX12_tellsApart_80 rfl ?_
      refine r_iconst (pc2 := 83) dX12_tellsApart_82 rfl ?_
      refine r_icge (tgt := 184) (pc2 := 86) dX12_tellsApart_83 rfl (by decide) ⟨by omega, by omega⟩ ⟨by omega, by omega⟩ (fun _ => ?_) (fun h9 => absurd h9 (by decide))
      refine r_iinc4 (z := ((i + 1 : Nat) : Int)) (pc2 := 187) dX12_tellsApart_184 rfl (by omega) rfl ?_
      refine r_goto (tgt := 68) dX12_tellsApart_187 (by decide) ?_
      refine r_iload4 (pc2 := 70) dX12_tellsApart_68 rfl ?_
      refine r_aload0 (pc2 := 71) dX12_tellsApart_70 rfl ?_
      refine r_getI (z := ((n : Nat) : Int)) (pc2 := 74) dX12_tellsApart_71 rfl (Or.inl fX12_324) (hK_317 hS) hsz ?_
      refine r_icge (tgt := 190) (pc2 := 77) dX12_tellsApart_74 rfl (by decide) ⟨by omega, by omega⟩ ⟨by omega, by omega⟩ (fun b_74 => ?_) (fun b_74 => ?_)
      · refine r_ret dX12_tellsApart_190 rfl ?_
        rw [bfs_end rfl (by omega)] at hF
        subst hF
        exact hQ M M hfr (by rw [pI_self hw]; exact fr.rf) (fun j hj => absurd hj (by omega))
      · refine r_iconst (pc2 := 78) dX12_tellsApart_77 rfl ?_
        refine r_istore5 (pc2 := 80) dX12_tellsApart_78 rfl rfl ?_
        rw [bfs_row rfl (by omega)] at hF
        exact ih (i + 1) 0 n K P H A B M s2 t2 (by omega) (by omega) (by omega) hfr hN hn3 hK hP hPe hs2 ht2 hsh hF
    · have hh4 : h < 4 := by omega
      have hd1 := bH_K (st := -2) hD hh4 hKi.2.2.1
      have hd2 := bH_K (st := -2) hE hh4 hKi.2.2.2
      refine r_iload5 (pc2 := 82) dX12_tellsApart_80 rfl ?_
      refine r_iconst (pc2 := 83) dX12_tellsApart_82 rfl ?_
      refine r_icge (tgt := 184) (pc2 := 86) dX12_tellsApart_83 rfl (by decide) ⟨by omega, by omega⟩ ⟨by omega, by omega⟩ (fun b_83 => ?_) (fun b_83 => ?_)
      · refine r_iinc4 (z := (((i : Nat) : Int) + 1)) (pc2 := 187) dX12_tellsApart_184 rfl rfl rfl ?_
        refine r_goto (tgt := 68) dX12_tellsApart_187 (by decide) ?_
        refine r_iload4 (pc2 := 70) dX12_tellsApart_68 rfl ?_
        refine r_aload0 (pc2 := 71) dX12_tellsApart_70 rfl ?_
        refine r_getI (z := (M.2.1 317 38)) (pc2 := 74) dX12_tellsApart_71 rfl (Or.inl fX12_324) (hK_317 hS) rfl ?_
        refine r_icge (tgt := 190) (pc2 := 77) dX12_tellsApart_74 rfl (by decide) ⟨by omega, by omega⟩ ⟨by omega, by omega⟩ (fun b_74 => ?_) (fun b_74 => ?_)
        · refine r_ret dX12_tellsApart_190 rfl ?_
          exact absurd b_83 (by omega)
        · refine r_iconst (pc2 := 78) dX12_tellsApart_77 rfl ?_
          refine r_istore5 (pc2 := 80) dX12_tellsApart_78 rfl rfl ?_
          exact absurd b_83 (by omega)
      · refine r_aload0 (pc2 := 87) dX12_tellsApart_86 rfl ?_
        refine r_bipush (pc2 := 89) dX12_tellsApart_87 rfl (by decide) (by decide) ?_
        refine r_aload0 (pc2 := 90) dX12_tellsApart_89 rfl ?_
        refine r_getR (pc2 := 93) dX12_tellsApart_90 rfl fX12_116 (hK_317 hS) (hR_317_34 hS) ?_
        refine r_iload4 (pc2 := 95) dX12_tellsApart_93 rfl ?_
        refine r_lald (z := (lN (cdN D.1.1 (K i).1 156))) (pc2 := 96) dX12_tellsApart_95 rfl (hK_338 hS) i rfl (by omega) hA1 ?_
        refine r_cv2 (pc2 := 99) dX12_tellsApart_96 rfl vX12_363 (hK_317 hS) (by decide) (MS_uncode (d := d + 1) (i := 26) (s := 0) (sh := (K i).1) (s2 := s2) (hB0.fu hfr) hS (by decide) hD hKi.2.2.1 hs2 (fun q hq => (hsh q hq).1)) ?_
        rintro _ M5 ⟨rfl, f5, e5⟩
        have hf5 : frU M0 M5 := hfr.tr (frU.bd (by decide) f5 e5)
        have hA5 : M5.2.2 339 i = lN (cdN E.1.1 (K i).2 156) := by rw [f5.j (by decide)]; exact hAi.2.trans hKi.2.1
        have q5 : ∀ p, p < 156 → M5.2.1 330 (156 * 26 + p) = (K i).1 p ∧ M5.2.1 330 (156 * 27 + p) = t2 p := fun p hp => ⟨by rw [e5, sB_in hp], by rw [e5, sB_out (by omega)]; exact (hsh p hp).2⟩
        show Go (Ct (d + 3)) _ yX12_tellsApart cX12_tellsApart none 0 0 99 [some (.ref 317), some (.int (iI a)), some (.int (iI b)), some (.int (iI 1)), some (.int (iI ((i : Nat) : Int))), some (.int (iI ((h : Nat) : Int)))] [] M5
        refine r_aload0 (pc2 := 100) dX12_tellsApart_99 rfl ?_
        refine r_bipush (pc2 := 102) dX12_tellsApart_100 rfl (by decide) (by decide) ?_
        refine r_aload0 (pc2 := 103) dX12_tellsApart_102 rfl ?_
        refine r_getR (pc2 := 106) dX12_tellsApart_103 rfl fX12_119 (hK_317 (hf5.1.ok hS0)) (hR_317_35 (hf5.1.ok hS0)) ?_
        refine r_iload4 (pc2 := 108) dX12_tellsApart_106 rfl ?_
        refine r_lald (z := (lN (cdN E.1.1 (K i).2 156))) (pc2 := 109) dX12_tellsApart_108 rfl (hK_339 (hf5.1.ok hS0)) i rfl (by omega) hA5 ?_
        refine r_cv2 (pc2 := 112) dX12_tellsApart_109 rfl vX12_363 (hK_317 (hf5.1.ok hS0)) (by decide) (MS_uncode (d := d + 1) (i := 27) (s := 1) (sh := (K i).2) (s2 := t2) (hC0.fu hf5) (hf5.1.ok hS0) (by decide) hE hKi.2.2.2 ht2 (fun q hq => (q5 q hq).2)) ?_
        rintro _ M6 ⟨rfl, f6, e6⟩
        have hf6 : frU M0 M6 := hf5.tr (frU.bd (by decide) f6 e6)
        have q6 : ∀ p, p < 156 → M6.2.1 330 (156 * 26 + p) = (K i).1 p ∧ M6.2.1 330 (156 * 27 + p) = (K i).2 p := fun p hp => ⟨by rw [e6, sB_out (by omega)]; exact (q5 p hp).1, by rw [e6, sB_in hp]⟩
        show Go (Ct (d + 3)) _ yX12_tellsApart cX12_tellsApart none 0 0 112 [some (.ref 317), some (.int (iI a)), some (.int (iI b)), some (.int (iI 1)), some (.int (iI ((i : Nat) : Int))), some (.int (iI ((h : Nat) : Int)))] [] M6
        refine r_aload0 (pc2 := 113) dX12_tellsApart_112 rfl ?_
        refine r_bipush (pc2 := 115) dX12_tellsApart_113 rfl (by decide) (by decide) ?_
        refine r_iconst (pc2 := 116) dX12_tellsApart_115 rfl ?_
        refine r_iload5 (pc2 := 118) dX12_tellsApart_116 rfl ?_
        refine r_bipush (pc2 := 120) dX12_tellsApart_118 rfl (by decide) (by decide) ?_
        refine r_cv4 (pc2 := 123) dX12_tellsApart_120 rfl vX12_312 (hK_317 (hf6.1.ok hS0)) (by decide) (MS_drop (d := d) (i := 26) (s := 0) (st := -2) (hB0.fu hf6) (hf6.1.ok hS0) (by decide) (by decide) hD hh4 hKi.2.2.1 (fun q hq => (q6 q hq).1) (by omega)) ?_
        rintro _ M7 ⟨rfl, f7, e7⟩
        have hf7 : frU M0 M7 := hf6.tr (frU.bd (by decide) f7 e7)
        have q7 : ∀ p, p < 156 → M7.2.1 330 (156 * 26 + p) = (bH D (-2) (K i).1 h).2 p ∧ M7.2.1 330 (156 * 27 + p) = (K i).2 p := fun p hp => ⟨by rw [e7, sB_in hp], by rw [e7, sB_out (by omega)]; exact (q6 p hp).2⟩
        show Go (Ct (d + 3)) _ yX12_tellsApart cX12_tellsApart none 0 0 123 [some (.ref 317), some (.int (iI a)), some (.int (iI b)), some (.int (iI 1)), some (.int (iI ((i : Nat) : Int))), some (.int (iI ((h : Nat) : Int)))] [.int (iI (bH D (-2) (K i).1 h).1)] M7
        refine r_aload0 (pc2 := 124) dX12_tellsApart_123 rfl ?_
        refine r_bipush (pc2 := 126) dX12_tellsApart_124 rfl (by decide) (by decide) ?_
        refine r_iconst (pc2 := 127) dX12_tellsApart_126 rfl ?_
        refine r_iload5 (pc2 := 129) dX12_tellsApart_127 rfl ?_
        refine r_bipush (pc2 := 131) dX12_tellsApart_129 rfl (by decide) (by decide) ?_
        refine r_cv4 (pc2 := 134) dX12_tellsApart_131 rfl vX12_312 (hK_317 (hf7.1.ok hS0)) (Nat.le_of_ble_eq_true rfl) (MS_drop (d := d) (i := 27) (s := 1) (st := -2) (hC0.fu hf7) (hf7.1.ok hS0) (by decide) (by decide) hE hh4 hKi.2.2.2 (fun q hq => (q7 q hq).2) (by omega)) ?_
        rintro _ M8 ⟨rfl, f8, e8⟩
        have hf8 : frU M0 M8 := hf7.tr (frU.bd (by decide) f8 e8)
        have q8 : ∀ p, p < 156 → M8.2.1 330 (156 * 26 + p) = (bH D (-2) (K i).1 h).2 p ∧ M8.2.1 330 (156 * 27 + p) = (bH E (-2) (K i).2 h).2 p := fun p hp => ⟨by rw [e8, sB_out (by omega)]; exact (q7 p hp).1, by rw [e8, sB_in hp]⟩
        have ff8 : fr [330, 344] M M8 := (((f5.tr f6).tr f7).tr f8).mono (by decide)
        have hN8 : TN M8 n A B := hN.of ff8
        have hPe8 : ∀ j, j < n → M8.2.1 340 j = P j ∧ M8.2.1 341 j = H j := fun j hj => by rw [ff8.i (by decide), ff8.i (by decide)]; exact hPe j hj
        have hKn : KQ D E (tlN D E (K i) h) (lN (cdN D.1.1 (tlN D E (K i) h).1 156)) (lN (cdN E.1.1 (tlN D E (K i) h).2 156)) := ⟨rfl, rfl, hd1.1, hd2.1⟩
        show Go (Ct (d + 3)) _ yX12_tellsApart cX12_tellsApart none 0 0 134 [some (.ref 317), some (.int (iI a)), some (.int (iI b)), some (.int (iI 1)), some (.int (iI ((i : Nat) : Int))), some (.int (iI ((h : Nat) : Int)))] [.int (iI (bH E (-2) (K i).2 h).1), .int (iI (bH D (-2) (K i).1 h).1)] M8
        refine r_iceq (tgt := 146) (pc2 := 137) dX12_tellsApart_134 rfl (by decide) ⟨by omega, by omega⟩ ⟨by omega, by omega⟩ (fun b_134 => ?_) (fun b_134 => ?_)
        · refine r_aload0 (pc2 := 147) dX12_tellsApart_146 rfl ?_
          refine r_aload0 (pc2 := 148) dX12_tellsApart_147 rfl ?_
          refine r_bipush (pc2 := 150) dX12_tellsApart_148 rfl (by decide) (by decide) ?_
          refine r_cv1 (pc2 := 153) dX12_tellsApart_150 rfl vX12_340 (hK_317 (hf8.1.ok hS0)) (Nat.le_of_ble_eq_true rfl) (MS_code (d := d + 1) (i := 26) (s := 0) (sh := (tlN D E (K i) h).1) (hB0.fu hf8) (hf8.1.ok hS0) (by decide) hD hd1.1 (fun q hq => (q8 q hq).1)) ?_
          rintro _ M9 ⟨rfl, h9⟩
          rw [h9]
          show Go (Ct (d + 3)) _ yX12_tellsApart cX12_tellsApart none 0 0 153 [some (.ref 317), some (.int (iI a)), some (.int (iI b)), some (.int (iI 1)), some (.int (iI ((i : Nat) : Int))), some (.int (iI ((h : Nat) : Int)))] [.long ((lN (cdN D.1.1 (tlN D E (K i) h).1 156))), .ref 317] M8
          refine r_aload0 (pc2 := 154) dX12_tellsApart_153 rfl ?_
          refine r_bipush (pc2 := 156) dX12_tellsApart_154 rfl (by decide) (by decide) ?_
          refine r_cv1 (pc2 := 159) dX12_tellsApart_156 rfl vX12_340 (hK_317 (hf8.1.ok hS0)) (Nat.le_of_ble_eq_true rfl) (MS_code (d := d + 1) (i := 27) (s := 1) (sh := (tlN D E (K i) h).2) (hC0.fu hf8) (hf8.1.ok hS0) (by decide) hE hd2.1 (fun q hq => (q8 q hq).2)) ?_
          rintro _ M10 ⟨rfl, h10⟩
          rw [h10]
          show Go (Ct (d + 3)) _ yX12_tellsApart cX12_tellsApart none 0 0 159 [some (.ref 317), some (.int (iI a)), some (.int (iI b)), some (.int (iI 1)), some (.int (iI ((i : Nat) : Int))), some (.int (iI ((h : Nat) : Int)))] [.long ((lN (cdN E.1.1 (tlN D E (K i) h).2 156))), .long ((lN (cdN D.1.1 (tlN D E (K i) h).1 156))), .ref 317] M8
          refine r_iload4 (pc2 := 161) dX12_tellsApart_159 rfl ?_
          refine r_iload5 (pc2 := 163) dX12_tellsApart_161 rfl ?_
          refine r_sipush (pc2 := 166) dX12_tellsApart_163 rfl (by decide) (by decide) ?_
          refine r_cv5 (pc2 := 169) dX12_tellsApart_166 rfl vX12_350 (hK_317 (hf8.1.ok hS0)) (by decide) (c_X12_comesUp (d := d + 1) (n := n) (mo := 3000) (A := A) (B := B) (hf8.1.ok hS0) hN8 (by omega)) ?_
          have hA2 : ¬ tlA D E (K i) h := fun q => q b_134
          have hex : (∃ j, j < n ∧ A j = lN (cdN D.1.1 (tlN D E (K i) h).1 156) ∧ B j = lN (cdN E.1.1 (tlN D E (K i) h).2 156)) ↔ ∃ j, j < n ∧ K j = tlN D E (K i) h := ⟨fun ⟨j, j1, j2⟩ => ⟨j, j1, ((hK j j1).key hD hE hKn).mp j2⟩, fun ⟨j, j1, j2⟩ => ⟨j, j1, ((hK j j1).key hD hE hKn).mpr j2⟩⟩
          rintro _ M11 (⟨hyes, rfl, h11⟩ | ⟨hno, hfull, rfl, h11⟩ | ⟨hno, hroom, rfl, hN11, f11, e340, e341, e317⟩)
          · have hyes2 := hex.mp hyes
            clear hex
            rw [h11]
            show Go (Ct (d + 3)) _ yX12_tellsApart cX12_tellsApart none 0 0 169 [some (.ref 317), some (.int (iI a)), some (.int (iI b)), some (.int (iI 1)), some (.int (iI ((i : Nat) : Int))), some (.int (iI ((h : Nat) : Int)))] [.int (iI 1)] M8
            refine r_ifne (tgt := 178) (pc2 := 172) dX12_tellsApart_169 rfl (by decide) ⟨by omega, by omega⟩ (fun _ => ?_) (fun h9 => absurd h9 (by decide))
            refine r_iinc5 (z := ((h + 1 : Nat) : Int)) (pc2 := 181) dX12_tellsApart_178 rfl (by omega) rfl ?_
            refine r_goto (tgt := 80) dX12_tellsApart_181 (by decide) ?_
            rw [bfs_old h4 hA2 hyes2] at hF
            exact ih i (h + 1) n K P H A B M8 _ _ (by omega) hin (by omega) hf8 hN8 hn3 hK hP hPe8 hd1.1 hd2.1 q8 hF
          · have hno2 := fun q => hno (hex.mpr q)
            clear hex hno
            rw [h11]
            show Go (Ct (d + 3)) _ yX12_tellsApart cX12_tellsApart none 0 0 169 [some (.ref 317), some (.int (iI a)), some (.int (iI b)), some (.int (iI 1)), some (.int (iI ((i : Nat) : Int))), some (.int (iI ((h : Nat) : Int)))] [.int (iI 0)] M8
            refine r_ifne (tgt := 178) (pc2 := 172) dX12_tellsApart_169 rfl (by decide) ⟨by omega, by omega⟩ (fun h9 => absurd h9 (by decide)) (fun _ => ?_)
            refine r_aload0 (pc2 := 173) dX12_tellsApart_172 rfl ?_
            refine r_iconst (pc2 := 174) dX12_tellsApart_173 rfl ?_
            refine r_putI (z := (-1)) (pc2 := 177) dX12_tellsApart_174 rfl fX12_360 (w12_44 _) (hK_317 (hf8.1.ok hS0)) (by decide) ?_
            refine r_ret dX12_tellsApart_177 rfl ?_
            rw [bfs_full h4 hA2 hno2 (by omega)] at hF
            subst hF
            exact hQ M8 _ hf8 fr.rf (fun j hj => absurd hj (by show ¬ (j : Int) < -1; omega))
          · have hno2 := fun q => hno (hex.mpr q)
            clear hex hno
            have hf11 : frU M0 M11 := hf8.tr (frU.cu f11 e317)
            show Go (Ct (d + 3)) _ yX12_tellsApart cX12_tellsApart none 0 0 169 [some (.ref 317), some (.int (iI a)), some (.int (iI b)), some (.int (iI 1)), some (.int (iI ((i : Nat) : Int))), some (.int (iI ((h : Nat) : Int)))] [.int (iI 1)] M11
            refine r_ifne (tgt := 178) (pc2 := 172) dX12_tellsApart_169 rfl (by decide) ⟨by omega, by omega⟩ (fun _ => ?_) (fun h9 => absurd h9 (by decide))
            refine r_iinc5 (z := ((h + 1 : Nat) : Int)) (pc2 := 181) dX12_tellsApart_178 rfl (by omega) rfl ?_
            refine r_goto (tgt := 80) dX12_tellsApart_181 (by decide) ?_
            rw [bfs_new h4 hA2 hno2 (by omega) (fun q => q)] at hF
            refine ih i (h + 1) (n + 1) _ _ _ _ _ M11 _ _ (by omega) (by omega) (by omega) hf11 hN11 (by omega) (fun j hj => ?_) (hP.up hin) (fun j hj => ?_) hd1.1 hd2.1 (fun q hq => by rw [f11.i (by decide)]; exact q8 q hq) hF
            · by_cases u : j = n
              · subst u; rw [up_at, up_at, up_at]; exact hKn
              · rw [up_ne u, up_ne u, up_ne u]; exact hK j (by omega)
            · rw [e340, e341]
              by_cases u : j = n
              · subst u; rw [up_at, up_at, up_at, up_at]; exact ⟨rfl, rfl⟩
              · rw [up_ne u, up_ne u, up_ne u, up_ne u]; exact hPe8 j (by omega)
        · refine r_aload0 (pc2 := 138) dX12_tellsApart_137 rfl ?_
          refine r_iload4 (pc2 := 140) dX12_tellsApart_138 rfl ?_
          refine r_iload5 (pc2 := 142) dX12_tellsApart_140 rfl ?_
          refine r_cv2 (pc2 := 145) dX12_tellsApart_142 rfl vX12_367 (hK_317 (hf8.1.ok hS0)) (by decide) (c_X12_traces (d := d + 2) (n := n) (s := i) (last := ((h : Nat) : Int)) (P := P) (H := H) (hf8.1.ok hS0) hn3 hin hP.1 hP.2 hPe8 ⟨by omega, by omega⟩) ?_
          rintro _ M9 ⟨rfl, f9, e9⟩
          rw [tLen, if_neg (by omega)] at f9 e9
          show Go (Ct (d + 3)) _ yX12_tellsApart cX12_tellsApart none 0 0 145 [some (.ref 317), some (.int (iI a)), some (.int (iI b)), some (.int (iI 1)), some (.int (iI ((i : Nat) : Int))), some (.int (iI ((h : Nat) : Int)))] [] M9
          refine r_ret dX12_tellsApart_145 rfl ?_
          rw [bfs_A h4 b_134] at hF
          subst hF
          exact hQ M8 M9 hf8 f9 (fun j hj => e9 j (by exact Int.ofNat_lt.mp hj))
