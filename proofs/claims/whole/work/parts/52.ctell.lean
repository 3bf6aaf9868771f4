/-! the class's Teller.search (264: path 265); b, c: two boards -/
def KP (D E : bD) (ix jx : Nat → Nat) (k : (Nat → Int) × (Nat → Int)) (v w : Int64) : Prop := BE D.1.1 ix v k.1 ∧ BE E.1.1 jx w k.2 ∧ bK D k.1 ∧ bK E k.2
theorem KP.key {D E : bD} {ix jx : Nat → Nat} {k k2 : (Nat → Int) × (Nat → Int)} {v w v2 w2 : Int64} (hx : Ixw D.1.1 ix) (hy : Ixw E.1.1 jx) (h : KP D E ix jx k v w) (h2 : KP D E ix jx k2 v2 w2) : (v = v2 ∧ w = w2) ↔ k = k2 := by
  obtain ⟨a1, a2, a3, a4⟩ := h
  obtain ⟨b1, b2, b3, b4⟩ := h2
  constructor
  · rintro ⟨rfl, rfl⟩
    exact Prod.ext (BE.inj hx a3 b3 a1 b1) (BE.inj hy a4 b4 a2 b2)
  · rintro rfl
    exact ⟨a1.uniq b1, a2.uniq b2⟩
/-- of two boards: the TRY tells, and the next pair -/
def tlA (D E : bD) (k : (Nat → Int) × (Nat → Int)) (h : Nat) : Prop := ¬ (bH D (-2) k.1 h).1 = (bH E (-2) k.2 h).1
def tlN (D E : bD) (k : (Nat → Int) × (Nat → Int)) (h : Nat) : (Nat → Int) × (Nat → Int) := ((bH D (-2) k.1 h).2, (bH E (-2) k.2 h).2)
noncomputable def tlF (D E : bD) (s t : Nat → Int) : Int × (Nat → Int) := bfs (tlA D E) (tlN D E) (fun _ => False) 0 15000 0 0 1 (fun _ => (s, t)) (fun _ => -1) (fun _ => -1)
theorem CS.fs {M M2 : pM} {b : Nat} {bs : List Nat} {D : bD} {ix : Nat → Nat} (h : CS M b D ix) (hf : frS bs M M2) (hb : ∀ k, 1 ≤ k → k ≤ 9 → b + k ∉ bs ++ [256, 257, 258, 259, 260, 261, 262]) : CS M2 b D ix := h.of (fun k h1 h2 => hf.1.2 _ (hb k h1 h2))
theorem isB_out {b c k : Nat} (hb : isB b) (hc : isB c) (h1 : 1 ≤ k) (h2 : k ≤ 9) : b + k ∉ [b, c] ++ [256, 257, 258, 259, 260, 261, 262] := by
  have hbc : b = c ∨ b + 9 < c ∨ c + 9 < b := by
    by_cases e : b = c
    · exact Or.inl e
    · exact Or.inr (isB_far hb hc e)
  have hr : b + 9 < 256 ∨ 262 < b := by
    unfold isB at hb
    simp only [List.mem_cons, List.not_mem_nil, or_false] at hb
    omega
  simp only [List.cons_append, List.nil_append, List.mem_cons, List.not_mem_nil, or_false]
  omega
theorem isB_o2 {b : Nat} (hb : isB b) : b ∉ [256, 257, 258, 259, 260, 261, 262, 264, 265] := by
  unfold isB at hb
  simp only [List.mem_cons, List.not_mem_nil, or_false] at hb ⊢
  omega
theorem fr.i9 {l : List Nat} {M M2 : pM} (h : fr l M M2) {a k : Nat} {z : Int} (ha : a ∉ l) (hz : M.2.1 a k = z) : M2.2.1 a k = z := by rw [h.i ha]; exact hz
theorem isB_sn {b : Nat} (hb : isB b) : b ∉ [256, 257, 258, 259, 260, 261, 262] := fun h => isB_o2 hb (by revert h; simp only [List.mem_cons, List.not_mem_nil, or_false]; omega)
theorem SN.bd {M : pM} {n : Nat} {A B : Nat → Int64} {b : Nat} {v : Int64} (hb : isB b) (h : SN M n A B) : SN (pJ M b 12 v) n A B := h.dr (fun a h1 h2 => ⟨fun _ => rfl, fun _ => rfl, pJ_ne (fun e => isB_sn hb (by rw [← e]; revert h1 h2; simp only [List.mem_cons, List.not_mem_nil, or_false]; omega))⟩)

set_option maxHeartbeats 8000000 in
theorem lp_X9_search {d : Nat} {Q : pQ} {b c : Nat} {D E : bD} {ix jx : Nat → Nat} {F : Int × (Nat → Int)} (M0 : pM) (hS0 : sOk M0.1) (hb_b : isB b) (hb_c : isB c) (hbc : b ≠ c) (hB0 : CS M0 b D ix) (hC0 : CS M0 c E jx) (hD : bOk D) (hE : bOk E)
    (hQ : ∀ M M2 n A B, frS [b, c] M0 M → SN M n A B → fr [265] M M2 → (∀ j : Nat, (j : Int) < F.1 → M2.2.1 265 j = F.2 j) → Q (some (.int (iI F.1))) M2) :
    ∀ (m i h n : Nat) (K : Nat → (Nat → Int) × (Nat → Int)) (P H : Nat → Int) (A B : Nat → Int64) (M : pM) (l6 : Option Value), 5 * i + h + m = 15000 → i < n → h ≤ 4 → frS [b, c] M0 M → SN M n A B → M.2.1 256 7 = 3000 → n ≤ 3000 → (∀ j, j < n → KP D E ix jx (K j) (A j) (B j)) → PHo n P → (∀ j, j < n → M.2.1 259 j = P j ∧ M.2.1 260 j = H j) → bfs (tlA D E) (tlN D E) (fun _ => False) 0 m i h n K P H = F →
      Go (Ct (d + 3)) Q yX9_search cX9_search (some .int) 0 0 45 [some (.ref 264), some (.ref b), some (.ref c), some (.ref 256), some (.int (iI ((i : Nat) : Int))), some (.int (iI ((h : Nat) : Int))), l6] [] M := by
  intro m
  induction m with
  | zero => intro i h n K P H A B M l6 hm hin hh hfr hN hlim hn3; omega
  | succ m ih =>
    intro i h n K P H A B M l6 hm hin hh hfr hN hlim hn3 hK hP hPe hF
    have hS := hfr.1.ok hS0
    have hx := hB0.1.2.2.2.2.2
    have hy := hC0.1.2.2.2.2.2
    have hKi := hK i hin
    have hAi := hN.2.2.1 i hin
    have hA1 : M.2.2 257 i = A i := hAi.1
    have hsz : M.2.1 256 6 = (n : Int) := hN.1
    have hbout := fun k h1 h2 => isB_out (b := b) (c := c) (k := k) hb_b hb_c h1 h2
    have hcout : ∀ k, 1 ≤ k → k ≤ 9 → c + k ∉ [b, c] ++ [256, 257, 258, 259, 260, 261, 262] := fun k h1 h2 hq => isB_out (b := c) (c := b) (k := k) hb_c hb_b h1 h2 (by revert hq; simp only [List.cons_append, List.nil_append, List.mem_cons, List.not_mem_nil, or_false]; omega)
    by_cases h4 : h = 4
    · subst h4
      refine r_iload5 (pc2 := 47) dX9_search_45 rfl ?_
      refine r_iconst (pc2 := 48) dX9_search_47 rfl ?_
      refine r_icge (tgt := 127) (pc2 := 51) dX9_search_48 rfl (by decide) ⟨by omega, by omega⟩ ⟨by omega, by omega⟩ (fun _ => ?_) (fun h9 => absurd h9 (by decide))
      refine r_iinc4 (z := ((i + 1 : Nat) : Int)) (pc2 := 130) dX9_search_127 rfl (by omega) rfl ?_
      refine r_goto (tgt := 25) dX9_search_130 (by decide) ?_
      refine r_iload4 (pc2 := 27) dX9_search_25 rfl ?_
      refine r_aload3 (pc2 := 28) dX9_search_27 rfl ?_
      refine r_getI (z := ((n : Nat) : Int)) (pc2 := 31) dX9_search_28 rfl (Or.inl fX9_49) (hK_256 hS) hsz ?_
      refine r_icge (tgt := 133) (pc2 := 34) dX9_search_31 rfl (by decide) ⟨by omega, by omega⟩ ⟨by omega, by omega⟩ (fun b_31 => ?_) (fun b_31 => ?_)
      · refine r_iconst (pc2 := 134) dX9_search_133 rfl ?_
        refine r_ireti dX9_search_134 rfl ?_
        rw [bfs_end rfl (by omega)] at hF
        subst hF
        exact hQ M M n A B hfr hN fr.rf (fun j hj => absurd hj (by omega))
      · refine r_iload4 (pc2 := 36) dX9_search_34 rfl ?_
        refine r_sipush (pc2 := 39) dX9_search_36 rfl (by decide) (by decide) ?_
        refine r_icge (tgt := 133) (pc2 := 42) dX9_search_39 rfl (by decide) ⟨by omega, by omega⟩ ⟨by omega, by omega⟩ (fun b_39 => ?_) (fun b_39 => ?_)
        · refine r_iconst (pc2 := 134) dX9_search_133 rfl ?_
          refine r_ireti dX9_search_134 rfl ?_
          exact absurd hn3 (by omega)
        · refine r_iconst (pc2 := 43) dX9_search_42 rfl ?_
          refine r_istore5 (pc2 := 45) dX9_search_43 rfl rfl ?_
          rw [bfs_row rfl (by omega)] at hF
          exact ih (i + 1) 0 n K P H A B M l6 (by omega) (by omega) (by omega) hfr hN hlim hn3 hK hP hPe hF
    · have hh4 : h < 4 := by omega
      have hd1 := bH_K (st := -2) hD hh4 hKi.2.2.1
      have hd2 := bH_K (st := -2) hE hh4 hKi.2.2.2
      have hst1 : stk D.1.1 (bT D) ix (-2) 0 := stk0 (fun q _ => (bT_r D q).1)
      have hst2 : stk E.1.1 (bT E) jx (-2) 0 := stk0 (fun q _ => (bT_r E q).1)
      refine r_iload5 (pc2 := 47) dX9_search_45 rfl ?_
      refine r_iconst (pc2 := 48) dX9_search_47 rfl ?_
      refine r_icge (tgt := 127) (pc2 := 51) dX9_search_48 rfl (by decide) ⟨by omega, by omega⟩ ⟨by omega, by omega⟩ (fun b_48 => ?_) (fun b_48 => ?_)
      · refine r_iinc4 (z := (((i : Nat) : Int) + 1)) (pc2 := 130) dX9_search_127 rfl rfl rfl ?_
        refine r_goto (tgt := 25) dX9_search_130 (by decide) ?_
        refine r_iload4 (pc2 := 27) dX9_search_25 rfl ?_
        refine r_aload3 (pc2 := 28) dX9_search_27 rfl ?_
        refine r_getI (z := (M.2.1 256 6)) (pc2 := 31) dX9_search_28 rfl (Or.inl fX9_49) (hK_256 hS) rfl ?_
        refine r_icge (tgt := 133) (pc2 := 34) dX9_search_31 rfl (by decide) ⟨by omega, by omega⟩ ⟨by omega, by omega⟩ (fun b_31 => ?_) (fun b_31 => ?_)
        · refine r_iconst (pc2 := 134) dX9_search_133 rfl ?_
          refine r_ireti dX9_search_134 rfl ?_
          exact absurd b_48 (by omega)
        · refine r_iload4 (pc2 := 36) dX9_search_34 rfl ?_
          refine r_sipush (pc2 := 39) dX9_search_36 rfl (by decide) (by decide) ?_
          refine r_icge (tgt := 133) (pc2 := 42) dX9_search_39 rfl (by decide) ⟨by omega, by omega⟩ ⟨by omega, by omega⟩ (fun b_39 => ?_) (fun b_39 => ?_)
          · refine r_iconst (pc2 := 134) dX9_search_133 rfl ?_
            refine r_ireti dX9_search_134 rfl ?_
            exact absurd b_48 (by omega)
          · refine r_iconst (pc2 := 43) dX9_search_42 rfl ?_
            refine r_istore5 (pc2 := 45) dX9_search_43 rfl rfl ?_
            exact absurd b_48 (by omega)
      · refine r_aload1 (pc2 := 52) dX9_search_51 rfl ?_
        refine r_aload3 (pc2 := 53) dX9_search_52 rfl ?_
        refine r_getR (pc2 := 56) dX9_search_53 rfl fX9_52 (hK_256 hS) (hR_256_0 hS) ?_
        refine r_iload4 (pc2 := 58) dX9_search_56 rfl ?_
        refine r_lald (z := (A i)) (pc2 := 59) dX9_search_58 rfl (hK_257 hS) i rfl (by omega) hA1 ?_
        refine r_iload5 (pc2 := 61) dX9_search_59 rfl ?_
        refine r_lconst (pc2 := 62) dX9_search_61 rfl ?_
        refine r_cv3 (pc2 := 65) dX9_search_62 rfl vX9_56 (hKb hS hb_b) (by decide) (CS_drop (d := d) (hB0.fs hfr hbout) hS hb_b hD hh4 hKi.2.2.1 hKi.1 hst1) ?_
        rintro _ M7 ⟨rfl, a2, h7, hE7⟩
        have hf7 : frS [b, c] M0 M7 := hfr.tr (by rw [h7]; exact frS.dr (by simp))
        have hN7 : SN M7 n A B := by rw [h7]; exact hN.bd hb_b
        have e7 : M7.2.1 = M.2.1 := by rw [h7]; rfl
        have ea7 : M7.2.2 b 12 = a2 := by rw [h7]; exact pJ_at
        have eb7 : M7.2.2 258 i = B i := (hN7.2.2.1 i hin).2
        show Go (Ct (d + 3)) _ yX9_search cX9_search (some .int) 0 0 65 [some (.ref 264), some (.ref (b)), some (.ref (c)), some (.ref 256), some (.int (iI ((i : Nat) : Int))), some (.int (iI ((h : Nat) : Int))), l6] [.int (iI (bH D (-2) (K i).1 h).1)] M7
        refine r_istore6 (pc2 := 67) dX9_search_65 rfl rfl ?_
        refine r_iload6 (pc2 := 69) dX9_search_67 rfl ?_
        refine r_aload2 (pc2 := 70) dX9_search_69 rfl ?_
        refine r_aload3 (pc2 := 71) dX9_search_70 rfl ?_
        refine r_getR (pc2 := 74) dX9_search_71 rfl fX9_60 (hK_256 (hf7.1.ok hS0)) (hR_256_1 (hf7.1.ok hS0)) ?_
        refine r_iload4 (pc2 := 76) dX9_search_74 rfl ?_
        refine r_lald (z := (B i)) (pc2 := 77) dX9_search_76 rfl (hK_258 (hf7.1.ok hS0)) i rfl (by omega) eb7 ?_
        refine r_iload5 (pc2 := 79) dX9_search_77 rfl ?_
        refine r_lconst (pc2 := 80) dX9_search_79 rfl ?_
        refine r_cv3 (pc2 := 83) dX9_search_80 rfl vX9_56 (hKb (hf7.1.ok hS0) hb_c) (Nat.le_of_ble_eq_true rfl) (CS_drop (d := d) (hC0.fs hf7 hcout) (hf7.1.ok hS0) hb_c hE hh4 hKi.2.2.2 hKi.2.1 hst2) ?_
        rintro _ M8 ⟨rfl, b2, h8, hE8⟩
        have hf8 : frS [b, c] M0 M8 := hf7.tr (by rw [h8]; exact frS.dr (by simp))
        have hN8 : SN M8 n A B := by rw [h8]; exact hN7.bd hb_c
        have e8 : M8.2.1 = M.2.1 := by rw [h8]; exact e7
        have ea8 : M8.2.2 b 12 = a2 := by rw [h8, pJ_ne hbc]; exact ea7
        have eb8 : M8.2.2 c 12 = b2 := by rw [h8]; exact pJ_at
        have hKn : KP D E ix jx (tlN D E (K i) h) a2 b2 := ⟨hE7, hE8, hd1.1, hd2.1⟩
        show Go (Ct (d + 3)) _ yX9_search cX9_search (some .int) 0 0 83 [some (.ref 264), some (.ref (b)), some (.ref (c)), some (.ref 256), some (.int (iI ((i : Nat) : Int))), some (.int (iI ((h : Nat) : Int))), some (.int (iI (bH D (-2) (K i).1 h).1))] [.int (iI (bH E (-2) (K i).2 h).1), .int (iI (bH D (-2) (K i).1 h).1)] M8
        refine r_iceq (tgt := 99) (pc2 := 86) dX9_search_83 rfl (by decide) ⟨by omega, by omega⟩ ⟨by omega, by omega⟩ (fun b_83 => ?_) (fun b_83 => ?_)
        · refine r_aload3 (pc2 := 100) dX9_search_99 rfl ?_
          refine r_aload1 (pc2 := 101) dX9_search_100 rfl ?_
          refine r_getJ (z := a2) (pc2 := 104) dX9_search_101 rfl fX9_67 (hKb (hf8.1.ok hS0) hb_b) ea8 ?_
          refine r_aload2 (pc2 := 105) dX9_search_104 rfl ?_
          refine r_getJ (z := b2) (pc2 := 108) dX9_search_105 rfl fX9_67 (hKb (hf8.1.ok hS0) hb_c) eb8 ?_
          refine r_iload4 (pc2 := 110) dX9_search_108 rfl ?_
          refine r_iload5 (pc2 := 112) dX9_search_110 rfl ?_
          refine r_cv4 (pc2 := 115) dX9_search_112 rfl vX9_45 (hK_256 (hf8.1.ok hS0)) (by decide) (c_X6_note (d := d) (n := n) (A := A) (B := B) (hf8.1.ok hS0) hN8 (by rw [e8]; omega)) ?_
          have hA2 : ¬ tlA D E (K i) h := fun q => q b_83
          have hex : (∃ j, j < n ∧ A j = a2 ∧ B j = b2) ↔ ∃ j, j < n ∧ K j = tlN D E (K i) h := ⟨fun ⟨j, j1, j2⟩ => ⟨j, j1, ((hK j j1).key hx hy hKn).mp j2⟩, fun ⟨j, j1, j2⟩ => ⟨j, j1, ((hK j j1).key hx hy hKn).mpr j2⟩⟩
          rintro _ M9 (⟨j, j1, j2, j3, rfl, h9⟩ | ⟨hno, hfull, rfl, h9⟩ | ⟨hno, hroom, rfl, hN9, hf9, e259, e260, hl9, -⟩)
          · have hyes := hex.mp ⟨j, j1, j2, j3⟩
            clear hex
            have hf9 : frS [b, c] M0 M9 := hf8.tr (frS.sn (fun q hq => by simp only [List.mem_cons, List.not_mem_nil, or_false] at hq; rcases hq with rfl | rfl; exact isB_sn hb_b; exact isB_sn hb_c) (by rw [h9]; exact fr.I fr.rf (by decide)))
            have hN9 : SN M9 n A B := hN8.dr (fun q hq hb => by rw [h9]; exact ⟨fun _ => pI_nk (by decide), fun u => pI_ne u, rfl⟩)
            show Go (Ct (d + 3)) _ yX9_search cX9_search (some .int) 0 0 115 [some (.ref 264), some (.ref (b)), some (.ref (c)), some (.ref 256), some (.int (iI ((i : Nat) : Int))), some (.int (iI ((h : Nat) : Int))), some (.int (iI (bH D (-2) (K i).1 h).1))] [.int (iI ((j : Nat) : Int))] M9
            refine r_iconst (pc2 := 116) dX9_search_115 rfl ?_
            refine r_icne (tgt := 121) (pc2 := 119) dX9_search_116 rfl (by decide) ⟨by omega, by omega⟩ ⟨by omega, by omega⟩ (fun b_116 => ?_) (fun b_116 => ?_)
            · refine r_iinc5 (z := ((h + 1 : Nat) : Int)) (pc2 := 124) dX9_search_121 rfl (by omega) rfl ?_
              refine r_goto (tgt := 45) dX9_search_124 (by decide) ?_
              rw [bfs_old h4 hA2 hyes] at hF
              exact ih i (h + 1) n K P H A B M9 _ (by omega) hin (by omega) hf9 hN9 (by rw [h9, pI_nk (by decide), e8]; exact hlim) hn3 hK hP (fun j hj => by rw [h9, pI_ne (by decide), pI_ne (by decide), e8]; exact hPe j hj) hF
            · refine r_iconst (pc2 := 120) dX9_search_119 rfl ?_
              refine r_ireti dX9_search_120 rfl ?_
              exact absurd b_116 (by omega)
          · have hno2 := fun q => hno (hex.mpr q)
            clear hno hex
            have hf9 : frS [b, c] M0 M9 := hf8.tr (frS.sn (fun q hq => by simp only [List.mem_cons, List.not_mem_nil, or_false] at hq; rcases hq with rfl | rfl; exact isB_sn hb_b; exact isB_sn hb_c) (by rw [h9]; exact fr.I fr.rf (by decide)))
            have hN9 : SN M9 n A B := hN8.dr (fun q hq hb => by rw [h9]; exact ⟨fun _ => pI_nk (by decide), fun u => pI_ne u, rfl⟩)
            show Go (Ct (d + 3)) _ yX9_search cX9_search (some .int) 0 0 115 [some (.ref 264), some (.ref (b)), some (.ref (c)), some (.ref 256), some (.int (iI ((i : Nat) : Int))), some (.int (iI ((h : Nat) : Int))), some (.int (iI (bH D (-2) (K i).1 h).1))] [.int (iI (-1))] M9
            refine r_iconst (pc2 := 116) dX9_search_115 rfl ?_
            refine r_icne (tgt := 121) (pc2 := 119) dX9_search_116 rfl (by decide) ⟨by omega, by omega⟩ ⟨by omega, by omega⟩ (fun h9 => absurd h9 (by decide)) (fun _ => ?_)
            refine r_iconst (pc2 := 120) dX9_search_119 rfl ?_
            refine r_ireti dX9_search_120 rfl ?_
            rw [bfs_full h4 hA2 hno2 (by rw [e8] at hfull; omega)] at hF
            subst hF
            exact hQ M9 M9 n A B hf9 hN9 fr.rf (fun j hj => absurd hj (by show ¬ (j : Int) < -1; omega))
          · have hno2 := fun q => hno (hex.mpr q)
            clear hno hex
            have hf9 : frS [b, c] M0 M9 := hf8.tr (frS.sn (fun q hq => by simp only [List.mem_cons, List.not_mem_nil, or_false] at hq; rcases hq with rfl | rfl; exact isB_sn hb_b; exact isB_sn hb_c) hf9)
            show Go (Ct (d + 3)) _ yX9_search cX9_search (some .int) 0 0 115 [some (.ref 264), some (.ref (b)), some (.ref (c)), some (.ref 256), some (.int (iI ((i : Nat) : Int))), some (.int (iI ((h : Nat) : Int))), some (.int (iI (bH D (-2) (K i).1 h).1))] [.int (iI ((n : Nat) : Int))] M9
            refine r_iconst (pc2 := 116) dX9_search_115 rfl ?_
            refine r_icne (tgt := 121) (pc2 := 119) dX9_search_116 rfl (by decide) ⟨by omega, by omega⟩ ⟨by omega, by omega⟩ (fun b_116 => ?_) (fun b_116 => ?_)
            · refine r_iinc5 (z := ((h + 1 : Nat) : Int)) (pc2 := 124) dX9_search_121 rfl (by omega) rfl ?_
              refine r_goto (tgt := 45) dX9_search_124 (by decide) ?_
              have hn9 : n < 3000 := by rw [e8] at hroom; omega
              rw [bfs_new h4 hA2 hno2 (by omega) (fun q => q)] at hF
              refine ih i (h + 1) (n + 1) _ _ _ _ _ M9 _ (by omega) (by omega) (by omega) hf9 hN9 (by rw [hl9, e8]; exact hlim) (by omega) (fun j hj => ?_) (hP.up hin) (fun j hj => ?_) hF
              · by_cases u : j = n
                · subst u; rw [up_at, up_at, up_at]; exact hKn
                · rw [up_ne u, up_ne u, up_ne u]; exact hK j (by omega)
              · rw [e259, e260, e8]
                by_cases u : j = n
                · subst u; rw [up_at, up_at, up_at, up_at]; exact ⟨rfl, rfl⟩
                · rw [up_ne u, up_ne u, up_ne u, up_ne u]; exact hPe j (by omega)
            · refine r_iconst (pc2 := 120) dX9_search_119 rfl ?_
              refine r_ireti dX9_search_120 rfl ?_
              exact absurd b_116 (by omega)
        · refine r_aload3 (pc2 := 87) dX9_search_86 rfl ?_
          refine r_iload4 (pc2 := 89) dX9_search_87 rfl ?_
          refine r_iload5 (pc2 := 91) dX9_search_89 rfl ?_
          refine r_aload0 (pc2 := 92) dX9_search_91 rfl ?_
          refine r_getR (pc2 := 95) dX9_search_92 rfl fX9_11 (hK_264 (hf8.1.ok hS0)) (hR_264_0 (hf8.1.ok hS0)) ?_
          refine r_cv3 (pc2 := 98) dX9_search_95 rfl vX9_63 (hK_256 (hf8.1.ok hS0)) (by decide) (c_X6_tracePath (d := d + 2) (pa := 265) (n := n) (s := i) (last := ((h : Nat) : Int)) (P := P) (H := H) (hf8.1.ok hS0) (hK_265 (hf8.1.ok hS0)) (by decide) (by decide) (by decide) (by decide) (by omega) hin (fun j j1 j2 => by have := hP.2 j j1 j2; omega) (fun j hj => by rw [e8]; exact hPe j hj)) ?_
          rintro _ M9 ⟨rfl, f9, e9⟩
          show Go (Ct (d + 3)) _ yX9_search cX9_search (some .int) 0 0 98 [some (.ref 264), some (.ref (b)), some (.ref (c)), some (.ref 256), some (.int (iI ((i : Nat) : Int))), some (.int (iI ((h : Nat) : Int))), some (.int (iI (bH D (-2) (K i).1 h).1))] [.int (iI ((((trc P H i (i : Int)).length + 1) : Nat) : Int))] M9
          refine r_ireti dX9_search_98 rfl ?_
          rw [bfs_A h4 b_83] at hF
          subst hF
          exact hQ M8 M9 n A B hf8 hN8 f9 (fun j hj => e9 j (by exact Int.ofNat_lt.mp hj))
set_option maxHeartbeats 4000000 in
theorem c_X9_search {d : Nat} {M : pM} {b c : Nat} {v w : Int64} {D E : bD} {ix jx : Nat → Nat} {s t : Nat → Int} (hS : sOk M.1) (hb_b : isB b) (hb_c : isB c) (hbc : b ≠ c) (hB : CS M b D ix) (hC : CS M c E jx) (hD : bOk D) (hE : bOk E) (hv : M.2.2 b 11 = v) (hw : M.2.2 c 11 = w) (hv2 : BE D.1.1 ix v s) (hw2 : BE E.1.1 jx w t) (hs : bK D s) (ht : bK E t) (hSr : SNr M) : Ct (d + 4) 0 0 yX9_search [.ref 264, .ref (b), .ref (c), .ref 256] M (fun v M2 => v = some (.int (iI (tlF D E s t).1)) ∧ ∃ M3, frS [b, c] M M3 ∧ SNr M3 ∧ fr [265] M3 M2 ∧ ∀ j : Nat, (j : Int) < (tlF D E s t).1 → M2.2.1 265 j = (tlF D E s t).2 j) := by
  refine ct_in (d := (d + 3)) kX9_search rfl (by decide) (Nat.le_of_ble_eq_true rfl) (by decide) ?_
  show Go (Ct (d + 3)) _ yX9_search cX9_search (some .int) 0 0 0 [some (.ref 264), some (.ref (b)), some (.ref (c)), some (.ref 256), none, none, none] [] M
  have hsnb : ∀ q ∈ [b, c], q ∉ [256, 257, 258, 259, 260, 261, 262] := fun q hq => by simp only [List.mem_cons, List.not_mem_nil, or_false] at hq; rcases hq with rfl | rfl; exact isB_sn hb_b; exact isB_sn hb_c
  refine r_aload3 (pc2 := 1) dX9_search_0 rfl ?_
  refine r_sipush (pc2 := 4) dX9_search_1 rfl (by decide) (by decide) ?_
  refine r_cv1 (pc2 := 7) dX9_search_4 rfl vX9_33 (hK_256 hS) (by decide) (c_X6_begin (d := d + 1) (z := 3000) hS ⟨by omega, by omega⟩) ?_
  rintro _ M8 ⟨rfl, h8⟩
  have hf8 : frS [b, c] M M8 := frS.sn hsnb (by rw [h8]; exact (fr.rf.I (by decide)).I (by decide))
  have ev : M8.2.2 b 11 = v := by rw [h8]; exact hv
  have ew : M8.2.2 c 11 = w := by rw [h8]; exact hw
  have hN8 : SN M8 0 (fun _ => 0) (fun _ => 0) := by rw [h8]; exact SN.start hSr.1 hSr.2
  have hl8 : M8.2.1 256 7 = 3000 := by rw [h8]; rfl
  show Go (Ct (d + 3)) _ yX9_search cX9_search (some .int) 0 0 7 [some (.ref 264), some (.ref (b)), some (.ref (c)), some (.ref 256), none, none, none] [] M8
  refine r_aload3 (pc2 := 8) dX9_search_7 rfl ?_
  refine r_aload1 (pc2 := 9) dX9_search_8 rfl ?_
  refine r_getJ (z := v) (pc2 := 12) dX9_search_9 rfl fX9_39 (hKb (hf8.1.ok hS) hb_b) ev ?_
  refine r_aload2 (pc2 := 13) dX9_search_12 rfl ?_
  refine r_getJ (z := w) (pc2 := 16) dX9_search_13 rfl fX9_39 (hKb (hf8.1.ok hS) hb_c) ew ?_
  refine r_iconst (pc2 := 17) dX9_search_16 rfl ?_
  refine r_iconst (pc2 := 18) dX9_search_17 rfl ?_
  refine r_cv4 (pc2 := 21) dX9_search_18 rfl vX9_45 (hK_256 (hf8.1.ok hS)) (by decide) (c_X6_note (d := d) (n := 0) (A := fun _ => 0) (B := fun _ => 0) (hf8.1.ok hS) hN8 (by omega)) ?_
  rintro _ M9 (⟨j, j1, j2, j3, rfl, h9⟩ | ⟨hno, hfull, rfl, h9⟩ | ⟨hno, hroom, rfl, hN9, hf9, e259, e260, hl9, -⟩)
  · exact absurd j1 (by omega)
  · exact absurd hfull (by omega)
  · have hf9 : frS [b, c] M M9 := hf8.tr (frS.sn hsnb hf9)
    have hsz9 : M9.2.1 256 6 = 1 := hN9.1
    show Go (Ct (d + 3)) _ yX9_search cX9_search (some .int) 0 0 21 [some (.ref 264), some (.ref (b)), some (.ref (c)), some (.ref 256), none, none, none] [.int (iI 0)] M9
    refine r_pop (pc2 := 22) dX9_search_21 rfl rfl ?_
    refine r_iconst (pc2 := 23) dX9_search_22 rfl ?_
    refine r_istore4 (pc2 := 25) dX9_search_23 rfl rfl ?_
    refine r_iload4 (pc2 := 27) dX9_search_25 rfl ?_
    refine r_aload3 (pc2 := 28) dX9_search_27 rfl ?_
    refine r_getI (z := 1) (pc2 := 31) dX9_search_28 rfl (Or.inl fX9_49) (hK_256 (hf9.1.ok hS)) hsz9 ?_
    refine r_icge (tgt := 133) (pc2 := 34) dX9_search_31 rfl (by decide) ⟨by omega, by omega⟩ ⟨by omega, by omega⟩ (fun h9 => absurd h9 (by decide)) (fun _ => ?_)
    refine r_iload4 (pc2 := 36) dX9_search_34 rfl ?_
    refine r_sipush (pc2 := 39) dX9_search_36 rfl (by decide) (by decide) ?_
    refine r_icge (tgt := 133) (pc2 := 42) dX9_search_39 rfl (by decide) ⟨by omega, by omega⟩ ⟨by omega, by omega⟩ (fun h9 => absurd h9 (by decide)) (fun _ => ?_)
    refine r_iconst (pc2 := 43) dX9_search_42 rfl ?_
    refine r_istore5 (pc2 := 45) dX9_search_43 rfl rfl ?_
    refine lp_X9_search (d := d) (F := tlF D E s t) M hS hb_b hb_c hbc hB hC hD hE (fun M3 M2 n A B hf hN hf2 hj => ⟨rfl, M3, hf, hN.r, hf2, hj⟩) 15000 0 0 1 (fun _ => (s, t)) (fun _ => -1) (fun _ => -1) (va_up (fun _ => 0) 0 v) (va_up (fun _ => 0) 0 w) M9 _ (by omega) (by omega) (by omega) hf9 hN9 (by rw [hl9]; exact hl8) (by omega) (fun j hj => ?_) ⟨rfl, fun j j1 j2 => by omega⟩ (fun j hj => ?_) rfl
    · obtain rfl : j = 0 := by omega
      rw [up_at, up_at]; exact ⟨hv2, hw2, hs, ht⟩
    · obtain rfl : j = 0 := by omega
      rw [e259, e260, up_at, up_at]; exact ⟨rfl, rfl⟩
