/-! the model's findSuspects, alikeBy -/
set_option maxHeartbeats 4000000 in
theorem lp2_X12_findSuspects {d : Nat} {Q : pQ} {s x : Nat} {pc tr : Nat → Int} {M : pM} (hS : sOk M.1) (hs4 : s < 4) (hx : x < 156) (hP : ∀ q, q < 156 → M.2.1 328 (156 * (1 + s) + q) = pc q ∧ 0 ≤ pc q ∧ pc q ≤ 9) (hT : ∀ q, q < 156 → M.2.1 335 q = tr q ∧ -1 ≤ tr q ∧ tr q < 156)
    (hQ : ∀ z : Int, (fstG pc tr x ∧ z = 1 ∨ ¬ fstG pc tr x ∧ z = 0) → Go (Ct (d + 4)) Q yX12_findSuspects cX12_findSuspects none 0 0 114 [some (.ref 317), some (.int (iI ((s : Nat) : Int))), some (.int (iI ((x : Nat) : Int))), some (.int (iI z)), some (.int (iI ((x : Nat) : Int)))] [] M) :
    ∀ (m q : Nat) (z : Int), q + m = x → (z = 0 ∨ z = 1) → (z = 1 ↔ pc x = 4 ∧ ∀ k, k < q → ¬ (pc k = 4 ∧ tr k = tr x)) →
      Go (Ct (d + 4)) Q yX12_findSuspects cX12_findSuspects none 0 0 57 [some (.ref 317), some (.int (iI ((s : Nat) : Int))), some (.int (iI ((x : Nat) : Int))), some (.int (iI z)), some (.int (iI ((q : Nat) : Int)))] [] M := by
  have hTx := hT x hx
  intro m
  induction m with
  | zero =>
    intro q z hm hz hi
    obtain rfl : q = x := by omega
    refine r_iload4 (pc2 := 59) dX12_findSuspects_57 rfl ?_
    refine r_iload2 (pc2 := 60) dX12_findSuspects_59 rfl ?_
    refine r_icge (tgt := 114) (pc2 := 63) dX12_findSuspects_60 rfl (by decide) ⟨by omega, by omega⟩ ⟨by omega, by omega⟩ (fun b_60 => ?_) (fun b_60 => ?_)
    · refine hQ z ?_
      rcases hz with hz | hz
      · exact Or.inr ⟨fun c => absurd (hi.mpr c) (by omega), hz⟩
      · exact Or.inl ⟨hi.mp hz, hz⟩
    · exact absurd b_60 (by omega)
  | succ m ih =>
    intro q z hm hz hi
    have hTq := hT q (by omega)
    have hPq := hP q (by omega)
    refine r_iload4 (pc2 := 59) dX12_findSuspects_57 rfl ?_
    refine r_iload2 (pc2 := 60) dX12_findSuspects_59 rfl ?_
    refine r_icge (tgt := 114) (pc2 := 63) dX12_findSuspects_60 rfl (by decide) ⟨by omega, by omega⟩ ⟨by omega, by omega⟩ (fun b_60 => ?_) (fun b_60 => ?_)
    · refine r_iload3 (pc2 := 115) dX12_findSuspects_114 rfl ?_
      refine r_ifeq (tgt := 132) (pc2 := 118) dX12_findSuspects_115 rfl (by decide) ⟨by omega, by omega⟩ (fun b_115 => ?_) (fun b_115 => ?_)
      · refine r_iinc2 (z := (((x : Nat) : Int) + 1)) (pc2 := 135) dX12_findSuspects_132 rfl rfl rfl ?_
        refine r_goto (tgt := 23) dX12_findSuspects_135 (by decide) ?_
        refine r_iload2 (pc2 := 24) dX12_findSuspects_23 rfl ?_
        refine r_sipush (pc2 := 27) dX12_findSuspects_24 rfl (by decide) (by decide) ?_
        refine r_icge (tgt := 138) (pc2 := 30) dX12_findSuspects_27 rfl (by decide) ⟨by omega, by omega⟩ ⟨by omega, by omega⟩ (fun b_27 => ?_) (fun b_27 => ?_)
        · refine r_ret dX12_findSuspects_138 rfl ?_
          exact absurd b_60 (by omega)
        · refine r_aload0 (pc2 := 31) dX12_findSuspects_30 rfl ?_
          refine r_getR (pc2 := 34) dX12_findSuspects_31 rfl fX12_86 (hK_317 hS) (hR_317_17 hS) ?_
          refine r_sipush (pc2 := 37) dX12_findSuspects_34 rfl (by decide) (by decide) ?_
          refine r_iconst (pc2 := 38) dX12_findSuspects_37 rfl ?_
          refine r_iload1 (pc2 := 39) dX12_findSuspects_38 rfl ?_
          refine r_iadd (c := ((1 + s : Nat) : Int)) (pc2 := 40) dX12_findSuspects_39 rfl (by omega) ?_
          refine r_imul (c := ((156 * (1 + s) : Nat) : Int)) (pc2 := 41) dX12_findSuspects_40 rfl (by omega) ?_
          refine r_iload2 (pc2 := 42) dX12_findSuspects_41 rfl ?_
          refine r_iadd (c := (((156 * (1 + s) : Nat) : Int) + (((x : Nat) : Int) + 1))) (pc2 := 43) dX12_findSuspects_42 rfl rfl ?_
          refine r_iald (z := (M.2.1 328 ((156 * (1 + s)) + (x + 1)))) (pc2 := 44) dX12_findSuspects_43 rfl (hK_328 hS) ((156 * (1 + s)) + (x + 1)) (by omega) (by omega) rfl ?_
          refine r_iconst (pc2 := 45) dX12_findSuspects_44 rfl ?_
          refine r_icne (tgt := 52) (pc2 := 48) dX12_findSuspects_45 rfl (by decide) ⟨by omega, by omega⟩ ⟨by omega, by omega⟩ (fun b_45 => ?_) (fun b_45 => ?_)
          · refine r_iconst (pc2 := 53) dX12_findSuspects_52 rfl ?_
            refine r_istore3 (pc2 := 54) dX12_findSuspects_53 rfl rfl ?_
            refine r_iconst (pc2 := 55) dX12_findSuspects_54 rfl ?_
            refine r_istore4 (pc2 := 57) dX12_findSuspects_55 rfl rfl ?_
            exact absurd b_60 (by omega)
          · refine r_iconst (pc2 := 49) dX12_findSuspects_48 rfl ?_
            refine r_goto (tgt := 53) dX12_findSuspects_49 (by decide) ?_
            refine r_istore3 (pc2 := 54) dX12_findSuspects_53 rfl rfl ?_
            refine r_iconst (pc2 := 55) dX12_findSuspects_54 rfl ?_
            refine r_istore4 (pc2 := 57) dX12_findSuspects_55 rfl rfl ?_
            exact absurd b_60 (by omega)
      · refine r_aload0 (pc2 := 119) dX12_findSuspects_118 rfl ?_
        refine r_iload1 (pc2 := 120) dX12_findSuspects_119 rfl ?_
        refine r_iconst (pc2 := 121) dX12_findSuspects_120 rfl ?_
        refine r_iload2 (pc2 := 122) dX12_findSuspects_121 rfl ?_
        refine r_iadd (c := (1 + ((x : Nat) : Int))) (pc2 := 123) dX12_findSuspects_122 rfl rfl ?_
        refine r_aload0 (pc2 := 124) dX12_findSuspects_123 rfl ?_
        refine r_getR (pc2 := 127) dX12_findSuspects_124 rfl fX12_107 (hK_317 hS) (hR_317_29 hS) ?_
        refine r_iload2 (pc2 := 128) dX12_findSuspects_127 rfl ?_
        refine r_iald (z := (tr x)) (pc2 := 129) dX12_findSuspects_128 rfl (hK_335 hS) x rfl (by omega) hTx.1 ?_
        exact absurd b_60 (by omega)
    · refine r_iload3 (pc2 := 64) dX12_findSuspects_63 rfl ?_
      refine r_ifeq (tgt := 106) (pc2 := 67) dX12_findSuspects_64 rfl (by decide) ⟨by omega, by omega⟩ (fun b_64 => ?_) (fun b_64 => ?_)
      · refine r_iconst (pc2 := 107) dX12_findSuspects_106 rfl ?_
        refine r_istore3 (pc2 := 108) dX12_findSuspects_107 rfl rfl ?_
        refine r_iinc4 (z := ((q + 1 : Nat) : Int)) (pc2 := 111) dX12_findSuspects_108 rfl (by omega) rfl ?_
        refine r_goto (tgt := 57) dX12_findSuspects_111 (by decide) ?_
        refine ih (q + 1) 0 (by omega) (Or.inl rfl) ⟨fun c => absurd c (by decide), fun c => ?_⟩
        have := hi.mpr ⟨c.1, fun k hk => c.2 k (by omega)⟩
        omega
      · refine r_aload0 (pc2 := 68) dX12_findSuspects_67 rfl ?_
        refine r_getR (pc2 := 71) dX12_findSuspects_68 rfl fX12_86 (hK_317 hS) (hR_317_17 hS) ?_
        refine r_sipush (pc2 := 74) dX12_findSuspects_71 rfl (by decide) (by decide) ?_
        refine r_iconst (pc2 := 75) dX12_findSuspects_74 rfl ?_
        refine r_iload1 (pc2 := 76) dX12_findSuspects_75 rfl ?_
        refine r_iadd (c := ((1 + s : Nat) : Int)) (pc2 := 77) dX12_findSuspects_76 rfl (by omega) ?_
        refine r_imul (c := ((156 * (1 + s) : Nat) : Int)) (pc2 := 78) dX12_findSuspects_77 rfl (by omega) ?_
        refine r_iload4 (pc2 := 80) dX12_findSuspects_78 rfl ?_
        refine r_iadd (c := (((156 * (1 + s) + q) : Nat) : Int)) (pc2 := 81) dX12_findSuspects_80 rfl (by omega) ?_
        refine r_iald (z := (M.2.1 328 ((156 * (1 + s) + q)))) (pc2 := 82) dX12_findSuspects_81 rfl (hK_328 hS) ((156 * (1 + s) + q)) rfl (by omega) rfl ?_
        refine r_iconst (pc2 := 83) dX12_findSuspects_82 rfl ?_
        refine r_icne (tgt := 102) (pc2 := 86) dX12_findSuspects_83 rfl (by decide) ⟨by omega, by omega⟩ ⟨by omega, by omega⟩ (fun b_83 => ?_) (fun b_83 => ?_)
        · refine r_iconst (pc2 := 103) dX12_findSuspects_102 rfl ?_
          refine r_goto (tgt := 107) dX12_findSuspects_103 (by decide) ?_
          refine r_istore3 (pc2 := 108) dX12_findSuspects_107 rfl rfl ?_
          refine r_iinc4 (z := ((q + 1 : Nat) : Int)) (pc2 := 111) dX12_findSuspects_108 rfl (by omega) rfl ?_
          refine r_goto (tgt := 57) dX12_findSuspects_111 (by decide) ?_
          refine ih (q + 1) 1 (by omega) (Or.inr rfl) ⟨fun _ => ⟨(hi.mp (by omega)).1, fun k hk c => ?_⟩, fun _ => rfl⟩
          by_cases u : k = q
          · subst u; omega
          · exact (hi.mp (by omega)).2 k (by omega) c
        · refine r_aload0 (pc2 := 87) dX12_findSuspects_86 rfl ?_
          refine r_getR (pc2 := 90) dX12_findSuspects_87 rfl fX12_107 (hK_317 hS) (hR_317_29 hS) ?_
          refine r_iload4 (pc2 := 92) dX12_findSuspects_90 rfl ?_
          refine r_iald (z := (tr q)) (pc2 := 93) dX12_findSuspects_92 rfl (hK_335 hS) q rfl (by omega) hTq.1 ?_
          refine r_aload0 (pc2 := 94) dX12_findSuspects_93 rfl ?_
          refine r_getR (pc2 := 97) dX12_findSuspects_94 rfl fX12_107 (hK_317 hS) (hR_317_29 hS) ?_
          refine r_iload2 (pc2 := 98) dX12_findSuspects_97 rfl ?_
          refine r_iald (z := (tr x)) (pc2 := 99) dX12_findSuspects_98 rfl (hK_335 hS) x rfl (by omega) hTx.1 ?_
          refine r_iceq (tgt := 106) (pc2 := 102) dX12_findSuspects_99 rfl (by decide) ⟨by omega, by omega⟩ ⟨by omega, by omega⟩ (fun b_99 => ?_) (fun b_99 => ?_)
          · refine r_iconst (pc2 := 107) dX12_findSuspects_106 rfl ?_
            refine r_istore3 (pc2 := 108) dX12_findSuspects_107 rfl rfl ?_
            refine r_iinc4 (z := ((q + 1 : Nat) : Int)) (pc2 := 111) dX12_findSuspects_108 rfl (by omega) rfl ?_
            refine r_goto (tgt := 57) dX12_findSuspects_111 (by decide) ?_
            refine ih (q + 1) 0 (by omega) (Or.inl rfl) ⟨fun c => absurd c (by decide), fun c => ?_⟩
            exact absurd ⟨by omega, by omega⟩ (c.2 q (by omega))
          · refine r_iconst (pc2 := 103) dX12_findSuspects_102 rfl ?_
            refine r_goto (tgt := 107) dX12_findSuspects_103 (by decide) ?_
            refine r_istore3 (pc2 := 108) dX12_findSuspects_107 rfl rfl ?_
            refine r_iinc4 (z := ((q + 1 : Nat) : Int)) (pc2 := 111) dX12_findSuspects_108 rfl (by omega) rfl ?_
            refine r_goto (tgt := 57) dX12_findSuspects_111 (by decide) ?_
            refine ih (q + 1) 1 (by omega) (Or.inr rfl) ⟨fun _ => ⟨(hi.mp (by omega)).1, fun k hk c => ?_⟩, fun _ => rfl⟩
            by_cases u : k = q
            · subst u; omega
            · exact (hi.mp (by omega)).2 k (by omega) c
set_option maxHeartbeats 4000000 in
theorem lp_X12_findSuspects {d : Nat} {Q : pQ} {s n : Nat} {D : bD} {ho : Nat → Nat} {hw sh : Nat → Int} (M0 : pM) (hS0 : sOk M0.1) (hs4 : s < 4) (hB0 : MD M0 (1 + s) D sh) (hT0 : ∀ q, q < 156 → M0.2.1 335 (156 * 0 + q) = bT D q) (hD : bOk D) (hs : bK D sh) (hg0 : sgM M0 n ho hw) (hh : ∀ i, ho i < 4)
    (hQ : ∀ M2, frV M0 M2 → ML D M2 (susN D ho hw n sh 156) → Q none M2) :
    ∀ (m x : Nat) (M : pM) (l3 l4 : Option Value), x + m = 156 → frV M0 M → ML D M (susN D ho hw n sh x) →
      Go (Ct (d + 4)) Q yX12_findSuspects cX12_findSuspects none 0 0 23 [some (.ref 317), some (.int (iI ((s : Nat) : Int))), some (.int (iI ((x : Nat) : Int))), l3, l4] [] M := by
  intro m
  induction m with
  | zero =>
    intro x M l3 l4 hm hfr hL
    obtain rfl : x = 156 := by omega
    refine r_iload2 (pc2 := 24) dX12_findSuspects_23 rfl ?_
    refine r_sipush (pc2 := 27) dX12_findSuspects_24 rfl (by decide) (by decide) ?_
    refine r_icge (tgt := 138) (pc2 := 30) dX12_findSuspects_27 rfl (by decide) ⟨by omega, by omega⟩ ⟨by omega, by omega⟩ (fun _ => ?_) (fun h9 => absurd h9 (by decide))
    refine r_ret dX12_findSuspects_138 rfl ?_
    exact hQ M hfr hL
  | succ m ih =>
    intro x M l3 l4 hm hfr hL
    have hS := hfr.1.ok hS0
    have hB := hB0.fv hfr (by omega)
    have hx : x < 156 := by omega
    have hT : ∀ q, q < 156 → M.2.1 335 q = bT D q ∧ -1 ≤ bT D q ∧ bT D q < 156 := fun q hq => by
      refine ⟨?_, bT_r D q⟩
      rw [hfr.1.i (by decide)]
      have := hT0 q hq
      rw [show 156 * 0 + q = q by omega] at this
      exact this
    have hTx := hT x hx
    have hP : ∀ q, q < 156 → M.2.1 328 (156 * (1 + s) + q) = D.1.1 q ∧ 0 ≤ D.1.1 q ∧ D.1.1 q ≤ 9 := fun q hq => ⟨(hB.1 q hq).1, bK_pc hs q hq⟩
    have hPx := hP x hx
    have hle := susN_le (D := D) (ho := ho) (hw := hw) (n := n) (s := sh) x
    refine r_iload2 (pc2 := 24) dX12_findSuspects_23 rfl ?_
    refine r_sipush (pc2 := 27) dX12_findSuspects_24 rfl (by decide) (by decide) ?_
    refine r_icge (tgt := 138) (pc2 := 30) dX12_findSuspects_27 rfl (by decide) ⟨by omega, by omega⟩ ⟨by omega, by omega⟩ (fun b_27 => ?_) (fun b_27 => ?_)
    · refine r_ret dX12_findSuspects_138 rfl ?_
      exact absurd b_27 (by omega)
    · refine r_aload0 (pc2 := 31) dX12_findSuspects_30 rfl ?_
      refine r_getR (pc2 := 34) dX12_findSuspects_31 rfl fX12_86 (hK_317 hS) (hR_317_17 hS) ?_
      refine r_sipush (pc2 := 37) dX12_findSuspects_34 rfl (by decide) (by decide) ?_
      refine r_iconst (pc2 := 38) dX12_findSuspects_37 rfl ?_
      refine r_iload1 (pc2 := 39) dX12_findSuspects_38 rfl ?_
      refine r_iadd (c := ((1 + s : Nat) : Int)) (pc2 := 40) dX12_findSuspects_39 rfl (by omega) ?_
      refine r_imul (c := ((156 * (1 + s) : Nat) : Int)) (pc2 := 41) dX12_findSuspects_40 rfl (by omega) ?_
      refine r_iload2 (pc2 := 42) dX12_findSuspects_41 rfl ?_
      refine r_iadd (c := (((156 * (1 + s) + x) : Nat) : Int)) (pc2 := 43) dX12_findSuspects_42 rfl (by omega) ?_
      refine r_iald (z := (M.2.1 328 ((156 * (1 + s) + x)))) (pc2 := 44) dX12_findSuspects_43 rfl (hK_328 hS) ((156 * (1 + s) + x)) rfl (by omega) rfl ?_
      refine r_iconst (pc2 := 45) dX12_findSuspects_44 rfl ?_
      refine r_icne (tgt := 52) (pc2 := 48) dX12_findSuspects_45 rfl (by decide) ⟨by omega, by omega⟩ ⟨by omega, by omega⟩ (fun b_45 => ?_) (fun b_45 => ?_)
      · refine r_iconst (pc2 := 53) dX12_findSuspects_52 rfl ?_
        refine r_istore3 (pc2 := 54) dX12_findSuspects_53 rfl rfl ?_
        refine r_iconst (pc2 := 55) dX12_findSuspects_54 rfl ?_
        refine r_istore4 (pc2 := 57) dX12_findSuspects_55 rfl rfl ?_
        refine lp2_X12_findSuspects (d := d) (pc := D.1.1) (tr := bT D) hS hs4 hx hP hT (fun z hz => ?_) x 0 0 (by omega) (Or.inl rfl) ⟨fun c => absurd c (by decide), fun c => absurd c.1 (by omega)⟩
        refine r_iload3 (pc2 := 115) dX12_findSuspects_114 rfl ?_
        refine r_ifeq (tgt := 132) (pc2 := 118) dX12_findSuspects_115 rfl (by decide) ⟨by omega, by omega⟩ (fun b_115 => ?_) (fun b_115 => ?_)
        · refine r_iinc2 (z := ((x + 1 : Nat) : Int)) (pc2 := 135) dX12_findSuspects_132 rfl (by omega) rfl ?_
          refine r_goto (tgt := 23) dX12_findSuspects_135 (by decide) ?_
          obtain ⟨-, h9⟩ | ⟨hf9, -⟩ := hz
          · omega
          exact ih (x + 1) M _ _ (by omega) hfr (by rw [susN_no hf9]; exact hL)
        · refine r_aload0 (pc2 := 119) dX12_findSuspects_118 rfl ?_
          refine r_iload1 (pc2 := 120) dX12_findSuspects_119 rfl ?_
          refine r_iconst (pc2 := 121) dX12_findSuspects_120 rfl ?_
          refine r_iload2 (pc2 := 122) dX12_findSuspects_121 rfl ?_
          refine r_iadd (c := (1 + (x : Int))) (pc2 := 123) dX12_findSuspects_122 rfl rfl ?_
          refine r_aload0 (pc2 := 124) dX12_findSuspects_123 rfl ?_
          refine r_getR (pc2 := 127) dX12_findSuspects_124 rfl fX12_107 (hK_317 hS) (hR_317_29 hS) ?_
          refine r_iload2 (pc2 := 128) dX12_findSuspects_127 rfl ?_
          refine r_iald (z := (bT D x)) (pc2 := 129) dX12_findSuspects_128 rfl (hK_335 hS) x rfl (by omega) hTx.1 ?_
          refine r_cv3 (pc2 := 132) dX12_findSuspects_129 rfl vX12_400 (hK_317 hS) (by decide) (c_X12_suspects (d := d) (s := s) (n := n) (ho := ho) (hw := hw) (sh := sh) (st := bT D x) (S := susN D ho hw n sh x) hS hs4 hB (fun q hq => by rw [hfr.1.i (by decide)]; exact hT0 q hq) hD hs (by omega) (hg0.fv hfr) hh hL (by have := mvc_mono (pc := D.1.1) (show x ≤ 156 by omega); have := hD.2.2; omega)) ?_
          rintro _ M8 ⟨rfl, f8, hL8⟩
          show Go (Ct (d + 4)) _ yX12_findSuspects cX12_findSuspects none 0 0 132 [some (.ref 317), some (.int (iI ((s : Nat) : Int))), some (.int (iI ((x : Nat) : Int))), some (.int (iI z)), some (.int (iI ((x : Nat) : Int)))] [] M8
          refine r_iinc2 (z := ((x + 1 : Nat) : Int)) (pc2 := 135) dX12_findSuspects_132 rfl (by omega) rfl ?_
          refine r_goto (tgt := 23) dX12_findSuspects_135 (by decide) ?_
          obtain ⟨hf9, -⟩ | ⟨-, h9⟩ := hz
          · exact ih (x + 1) M8 _ _ (by omega) (hfr.tr f8) (by rw [susN_yes hf9]; exact hL8)
          · omega
      · refine r_iconst (pc2 := 49) dX12_findSuspects_48 rfl ?_
        refine r_goto (tgt := 53) dX12_findSuspects_49 (by decide) ?_
        refine r_istore3 (pc2 := 54) dX12_findSuspects_53 rfl rfl ?_
        refine r_iconst (pc2 := 55) dX12_findSuspects_54 rfl ?_
        refine r_istore4 (pc2 := 57) dX12_findSuspects_55 rfl rfl ?_
        refine lp2_X12_findSuspects (d := d) (pc := D.1.1) (tr := bT D) hS hs4 hx hP hT (fun z hz => ?_) x 0 1 (by omega) (Or.inr rfl) ⟨fun _ => ⟨by omega, fun k hk => by omega⟩, fun _ => rfl⟩
        refine r_iload3 (pc2 := 115) dX12_findSuspects_114 rfl ?_
        refine r_ifeq (tgt := 132) (pc2 := 118) dX12_findSuspects_115 rfl (by decide) ⟨by omega, by omega⟩ (fun b_115 => ?_) (fun b_115 => ?_)
        · refine r_iinc2 (z := ((x + 1 : Nat) : Int)) (pc2 := 135) dX12_findSuspects_132 rfl (by omega) rfl ?_
          refine r_goto (tgt := 23) dX12_findSuspects_135 (by decide) ?_
          obtain ⟨-, h9⟩ | ⟨hf9, -⟩ := hz
          · omega
          exact ih (x + 1) M _ _ (by omega) hfr (by rw [susN_no hf9]; exact hL)
        · refine r_aload0 (pc2 := 119) dX12_findSuspects_118 rfl ?_
          refine r_iload1 (pc2 := 120) dX12_findSuspects_119 rfl ?_
          refine r_iconst (pc2 := 121) dX12_findSuspects_120 rfl ?_
          refine r_iload2 (pc2 := 122) dX12_findSuspects_121 rfl ?_
          refine r_iadd (c := (1 + (x : Int))) (pc2 := 123) dX12_findSuspects_122 rfl rfl ?_
          refine r_aload0 (pc2 := 124) dX12_findSuspects_123 rfl ?_
          refine r_getR (pc2 := 127) dX12_findSuspects_124 rfl fX12_107 (hK_317 hS) (hR_317_29 hS) ?_
          refine r_iload2 (pc2 := 128) dX12_findSuspects_127 rfl ?_
          refine r_iald (z := (bT D x)) (pc2 := 129) dX12_findSuspects_128 rfl (hK_335 hS) x rfl (by omega) hTx.1 ?_
          refine r_cv3 (pc2 := 132) dX12_findSuspects_129 rfl vX12_400 (hK_317 hS) (by decide) (c_X12_suspects (d := d) (s := s) (n := n) (ho := ho) (hw := hw) (sh := sh) (st := bT D x) (S := susN D ho hw n sh x) hS hs4 hB (fun q hq => by rw [hfr.1.i (by decide)]; exact hT0 q hq) hD hs (by omega) (hg0.fv hfr) hh hL (by have := mvc_mono (pc := D.1.1) (show x ≤ 156 by omega); have := hD.2.2; omega)) ?_
          rintro _ M8 ⟨rfl, f8, hL8⟩
          show Go (Ct (d + 4)) _ yX12_findSuspects cX12_findSuspects none 0 0 132 [some (.ref 317), some (.int (iI ((s : Nat) : Int))), some (.int (iI ((x : Nat) : Int))), some (.int (iI z)), some (.int (iI ((x : Nat) : Int)))] [] M8
          refine r_iinc2 (z := ((x + 1 : Nat) : Int)) (pc2 := 135) dX12_findSuspects_132 rfl (by omega) rfl ?_
          refine r_goto (tgt := 23) dX12_findSuspects_135 (by decide) ?_
          obtain ⟨hf9, -⟩ | ⟨-, h9⟩ := hz
          · exact ih (x + 1) M8 _ _ (by omega) (hfr.tr f8) (by rw [susN_yes hf9]; exact hL8)
          · omega
set_option maxHeartbeats 4000000 in
theorem c_X12_findSuspects {d : Nat} {M : pM} {s n : Nat} {D : bD} {ho : Nat → Nat} {hw sh : Nat → Int} (hS : sOk M.1) (hs4 : s < 4) (hB : MD M (1 + s) D sh) (hD : bOk D) (hs : bK D sh) (hg : sgM M n ho hw) (hh : ∀ i, ho i < 4) : Ct (d + 5) 0 0 yX12_findSuspects [.ref 317, .int (iI ((s : Nat) : Int))] M (fun v M2 => v = none ∧ ∃ M1, (fr [317, 335, 336] M M1 ∧ ∀ j, j ≠ 51 → M1.2.1 317 j = M.2.1 317 j) ∧ frV M1 M2 ∧ ML D M2 (susN D ho hw n sh 156)) := by
  refine ct_in (d := (d + 4)) kX12_findSuspects rfl (by decide) (Nat.le_of_ble_eq_true rfl) (by decide) ?_
  show Go (Ct (d + 4)) _ yX12_findSuspects cX12_findSuspects none 0 0 0 [some (.ref 317), some (.int (iI ((s : Nat) : Int))), none, none, none] [] M
  refine r_aload0 (pc2 := 1) dX12_findSuspects_0 rfl ?_
  refine r_iconst (pc2 := 2) dX12_findSuspects_1 rfl ?_
  refine r_putI (z := 0) (pc2 := 5) dX12_findSuspects_2 rfl fX12_397 (w12_51 _) (hK_317 hS) (by decide) ?_
  obtain ⟨M1, h1⟩ : ∃ M1, M1 = pI M 317 51 0 := ⟨_, rfl⟩
  rw [← h1]
  have hS1 : sOk M1.1 := by rw [h1]; exact hS
  have m1 : MD M1 (1 + s) D sh := hB.of (fun q hq => by rw [h1, pI_ne (by revert hq; simp only [List.mem_cons, List.not_mem_nil, or_false]; omega)])
  refine r_aload0 (pc2 := 6) dX12_findSuspects_5 rfl ?_
  refine r_iconst (pc2 := 7) dX12_findSuspects_6 rfl ?_
  refine r_iload1 (pc2 := 8) dX12_findSuspects_7 rfl ?_
  refine r_iadd (c := ((1 + s : Nat) : Int)) (pc2 := 9) dX12_findSuspects_8 rfl (by omega) ?_
  refine r_iconst (pc2 := 10) dX12_findSuspects_9 rfl ?_
  refine r_cv2 (pc2 := 13) dX12_findSuspects_10 rfl vX12_309 (hK_317 hS1) (by decide) (c_X12_findTrains (d := d + 2) (b := 1 + s) (sl := 0) (pc := D.1.1) hS1 (by omega) (by decide) (fun q hq => ⟨(m1.1 q hq).1, bK_pc hs q hq⟩)) ?_
  rintro _ M4 ⟨rfl, f4, e4⟩
  have m4 : MD M4 (1 + s) D sh := m1.ofl f4 (by decide)
  have hS4 := f4.ok hS1
  have hT4 : ∀ q, q < 156 → M4.2.1 335 (156 * 0 + q) = bT D q := fun q hq => by rw [e4, sB_in hq]
  have hg4 : sgM M4 n ho hw := ⟨by rw [f4.i (by decide), h1, pI_nk (by decide)]; exact hg.1, hg.2.1, fun i hi => by rw [f4.i (by decide), f4.i (by decide), h1, pI_ne (by decide), pI_ne (by decide)]; exact hg.2.2 i hi⟩
  have hL4 : ML D M4 (0, fun _ => (0, 0, fun _ => 0)) := ⟨by rw [f4.i (by decide), h1, pI_at]; rfl, fun i hi => absurd hi (by show ¬ i < 0; omega)⟩
  show Go (Ct (d + 4)) _ yX12_findSuspects cX12_findSuspects none 0 0 13 [some (.ref 317), some (.int (iI ((s : Nat) : Int))), none, none, none] [] M4
  refine r_aload0 (pc2 := 14) dX12_findSuspects_13 rfl ?_
  refine r_iload1 (pc2 := 15) dX12_findSuspects_14 rfl ?_
  refine r_iconst (pc2 := 16) dX12_findSuspects_15 rfl ?_
  refine r_bipush (pc2 := 18) dX12_findSuspects_16 rfl (by decide) (by decide) ?_
  refine r_cv3 (pc2 := 21) dX12_findSuspects_18 rfl vX12_400 (hK_317 hS4) (by decide) (c_X12_suspects (d := d) (s := s) (n := n) (ho := ho) (hw := hw) (sh := sh) (st := -2) (S := (0, fun _ => (0, 0, fun _ => 0))) hS4 hs4 m4 hT4 hD hs (by omega) hg4 hh hL4 (by show 0 ≤ 156; omega)) ?_
  rintro _ M8 ⟨rfl, f8, hL8⟩
  show Go (Ct (d + 4)) _ yX12_findSuspects cX12_findSuspects none 0 0 21 [some (.ref 317), some (.int (iI ((s : Nat) : Int))), none, none, none] [] M8
  refine r_iconst (pc2 := 22) dX12_findSuspects_21 rfl ?_
  refine r_istore2 (pc2 := 23) dX12_findSuspects_22 rfl rfl ?_
  refine lp_X12_findSuspects (d := d) M4 hS4 hs4 m4 hT4 hD hs hg4 hh (fun M2 hf hL2 => ⟨rfl, M4, ⟨fr.tr (M1 := M1) (by rw [h1]; exact fr.rf.I (by decide)) (f4.mono (by decide)), fun j hj => by rw [f4.i (by decide), h1, pI_nk hj]⟩, hf, hL2⟩) 156 0 M8 _ _ (by omega) f8 hL8
set_option maxHeartbeats 4000000 in
theorem lp2_X12_alikeBy {d : Nat} {Q : pQ} {h a n mo : Nat} {e : Nat → Int} {M : pM} (hS : sOk M.1) (hh : h < 4) (hn : M.2.1 317 51 = (n : Int)) (hn2 : n ≤ 157) (ha : a < n) (he : ∀ k, k < n → M.2.1 350 (4 * k + h) = e k ∧ 0 ≤ e k ∧ e k < 1024)
    (hQ : Go (Ct d) Q yX12_alikeBy cX12_alikeBy (some .int) 0 0 67 [some (.ref 317), some (.int (iI ((h : Nat) : Int))), some (.int (iI ((mo : Nat) : Int))), some (.int (iI ((a : Nat) : Int))), some (.int (iI ((cnt e (e a) n : Nat) : Int))), some (.int (iI ((n : Nat) : Int)))] [] M) :
    ∀ (m j : Nat), j + m = n → Go (Ct d) Q yX12_alikeBy cX12_alikeBy (some .int) 0 0 18 [some (.ref 317), some (.int (iI ((h : Nat) : Int))), some (.int (iI ((mo : Nat) : Int))), some (.int (iI ((a : Nat) : Int))), some (.int (iI ((cnt e (e a) j : Nat) : Int))), some (.int (iI ((j : Nat) : Int)))] [] M := by
  intro m
  induction m with
  | zero =>
    intro j hm
    obtain rfl : j = n := by omega
    refine r_iload5 (pc2 := 20) dX12_alikeBy_18 rfl ?_
    refine r_aload0 (pc2 := 21) dX12_alikeBy_20 rfl ?_
    refine r_getI (z := ((j : Nat) : Int)) (pc2 := 24) dX12_alikeBy_21 rfl (Or.inl fX12_397) (hK_317 hS) hn ?_
    refine r_icge (tgt := 67) (pc2 := 27) dX12_alikeBy_24 rfl (by decide) ⟨by omega, by omega⟩ ⟨by omega, by omega⟩ (fun b_24 => ?_) (fun b_24 => ?_)
    · exact hQ
    · exact absurd b_24 (by omega)
  | succ m ih =>
    intro j hm
    have h1 := he j (by omega)
    have h2 := he a (by omega)
    refine r_iload5 (pc2 := 20) dX12_alikeBy_18 rfl ?_
    refine r_aload0 (pc2 := 21) dX12_alikeBy_20 rfl ?_
    refine r_getI (z := ((n : Nat) : Int)) (pc2 := 24) dX12_alikeBy_21 rfl (Or.inl fX12_397) (hK_317 hS) hn ?_
    refine r_icge (tgt := 67) (pc2 := 27) dX12_alikeBy_24 rfl (by decide) ⟨by omega, by omega⟩ ⟨by omega, by omega⟩ (fun b_24 => ?_) (fun b_24 => ?_)
    · refine r_iload4 (pc2 := 69) dX12_alikeBy_67 rfl ?_
      refine r_iload2 (pc2 := 70) dX12_alikeBy_69 rfl ?_
      refine r_icle (tgt := 78) (pc2 := 73) dX12_alikeBy_70 rfl (by decide) ⟨by omega, by omega⟩ ⟨by omega, by omega⟩ (fun b_70 => ?_) (fun b_70 => ?_)
      · refine r_iload2 (pc2 := 79) dX12_alikeBy_78 rfl ?_
        refine r_istore2 (pc2 := 80) dX12_alikeBy_79 rfl rfl ?_
        refine r_iinc3 (z := (((a : Nat) : Int) + 1)) (pc2 := 83) dX12_alikeBy_80 rfl rfl rfl ?_
        refine r_goto (tgt := 4) dX12_alikeBy_83 (by decide) ?_
        refine r_iload3 (pc2 := 5) dX12_alikeBy_4 rfl ?_
        refine r_aload0 (pc2 := 6) dX12_alikeBy_5 rfl ?_
        refine r_getI (z := ((n : Nat) : Int)) (pc2 := 9) dX12_alikeBy_6 rfl (Or.inl fX12_397) (hK_317 hS) hn ?_
        refine r_icge (tgt := 86) (pc2 := 12) dX12_alikeBy_9 rfl (by decide) ⟨by omega, by omega⟩ ⟨by omega, by omega⟩ (fun b_9 => ?_) (fun b_9 => ?_)
        · refine r_iload2 (pc2 := 87) dX12_alikeBy_86 rfl ?_
          refine r_ireti dX12_alikeBy_87 rfl ?_
          exact absurd b_24 (by omega)
        · refine r_iconst (pc2 := 13) dX12_alikeBy_12 rfl ?_
          refine r_istore4 (pc2 := 15) dX12_alikeBy_13 rfl rfl ?_
          refine r_iconst (pc2 := 16) dX12_alikeBy_15 rfl ?_
          refine r_istore5 (pc2 := 18) dX12_alikeBy_16 rfl rfl ?_
          exact absurd b_24 (by omega)
      · refine r_iload4 (pc2 := 75) dX12_alikeBy_73 rfl ?_
        refine r_goto (tgt := 79) dX12_alikeBy_75 (by decide) ?_
        refine r_istore2 (pc2 := 80) dX12_alikeBy_79 rfl rfl ?_
        refine r_iinc3 (z := (((a : Nat) : Int) + 1)) (pc2 := 83) dX12_alikeBy_80 rfl rfl rfl ?_
        refine r_goto (tgt := 4) dX12_alikeBy_83 (by decide) ?_
        refine r_iload3 (pc2 := 5) dX12_alikeBy_4 rfl ?_
        refine r_aload0 (pc2 := 6) dX12_alikeBy_5 rfl ?_
        refine r_getI (z := ((n : Nat) : Int)) (pc2 := 9) dX12_alikeBy_6 rfl (Or.inl fX12_397) (hK_317 hS) hn ?_
        refine r_icge (tgt := 86) (pc2 := 12) dX12_alikeBy_9 rfl (by decide) ⟨by omega, by omega⟩ ⟨by omega, by omega⟩ (fun b_9 => ?_) (fun b_9 => ?_)
        · refine r_iload2 (pc2 := 87) dX12_alikeBy_86 rfl ?_
          refine r_ireti dX12_alikeBy_87 rfl ?_
          exact absurd b_24 (by omega)
        · refine r_iconst (pc2 := 13) dX12_alikeBy_12 rfl ?_
          refine r_istore4 (pc2 := 15) dX12_alikeBy_13 rfl rfl ?_
          refine r_iconst (pc2 := 16) dX12_alikeBy_15 rfl ?_
          refine r_istore5 (pc2 := 18) dX12_alikeBy_16 rfl rfl ?_
          exact absurd b_24 (by omega)
    · refine r_iload4 (pc2 := 29) dX12_alikeBy_27 rfl ?_
      refine r_aload0 (pc2 := 30) dX12_alikeBy_29 rfl ?_
      refine r_getR (pc2 := 33) dX12_alikeBy_30 rfl fX12_153 (hK_317 hS) (hR_317_53 hS) ?_
      refine r_iconst (pc2 := 34) dX12_alikeBy_33 rfl ?_
      refine r_iload3 (pc2 := 35) dX12_alikeBy_34 rfl ?_
      refine r_imul (c := ((4 * a : Nat) : Int)) (pc2 := 36) dX12_alikeBy_35 rfl (by omega) ?_
      refine r_iload1 (pc2 := 37) dX12_alikeBy_36 rfl ?_
      refine r_iadd (c := (((4 * a + h) : Nat) : Int)) (pc2 := 38) dX12_alikeBy_37 rfl (by omega) ?_
      refine r_iald (z := (M.2.1 350 ((4 * a + h)))) (pc2 := 39) dX12_alikeBy_38 rfl (hK_350 hS) ((4 * a + h)) rfl (by omega) rfl ?_
      refine r_aload0 (pc2 := 40) dX12_alikeBy_39 rfl ?_
      refine r_getR (pc2 := 43) dX12_alikeBy_40 rfl fX12_153 (hK_317 hS) (hR_317_53 hS) ?_
      refine r_iconst (pc2 := 44) dX12_alikeBy_43 rfl ?_
      refine r_iload5 (pc2 := 46) dX12_alikeBy_44 rfl ?_
      refine r_imul (c := ((4 * j : Nat) : Int)) (pc2 := 47) dX12_alikeBy_46 rfl (by omega) ?_
      refine r_iload1 (pc2 := 48) dX12_alikeBy_47 rfl ?_
      refine r_iadd (c := (((4 * j + h) : Nat) : Int)) (pc2 := 49) dX12_alikeBy_48 rfl (by omega) ?_
      refine r_iald (z := (M.2.1 350 ((4 * j + h)))) (pc2 := 50) dX12_alikeBy_49 rfl (hK_350 hS) ((4 * j + h)) rfl (by omega) rfl ?_
      refine r_icne (tgt := 57) (pc2 := 53) dX12_alikeBy_50 rfl (by decide) ⟨by omega, by omega⟩ ⟨by omega, by omega⟩ (fun b_50 => ?_) (fun b_50 => ?_)
      · refine r_iconst (pc2 := 58) dX12_alikeBy_57 rfl ?_
        refine r_iadd (c := ((cnt e (e a) j + 0 : Nat) : Int)) (pc2 := 59) dX12_alikeBy_58 rfl (by omega) ?_
        refine r_istore4 (pc2 := 61) dX12_alikeBy_59 rfl rfl ?_
        refine r_iinc5 (z := ((j + 1 : Nat) : Int)) (pc2 := 64) dX12_alikeBy_61 rfl (by omega) rfl ?_
        refine r_goto (tgt := 18) dX12_alikeBy_64 (by decide) ?_
        have hc := cnt_s (e := e) (v := e a) (i := j)
        rw [if_neg (by omega)] at hc
        have h9 := ih (j + 1) (by omega)
        rw [hc] at h9
        exact h9
      · refine r_iconst (pc2 := 54) dX12_alikeBy_53 rfl ?_
        refine r_goto (tgt := 58) dX12_alikeBy_54 (by decide) ?_
        refine r_iadd (c := ((cnt e (e a) j + 1 : Nat) : Int)) (pc2 := 59) dX12_alikeBy_58 rfl (by omega) ?_
        refine r_istore4 (pc2 := 61) dX12_alikeBy_59 rfl rfl ?_
        refine r_iinc5 (z := ((j + 1 : Nat) : Int)) (pc2 := 64) dX12_alikeBy_61 rfl (by omega) rfl ?_
        refine r_goto (tgt := 18) dX12_alikeBy_64 (by decide) ?_
        have hc := cnt_s (e := e) (v := e a) (i := j)
        rw [if_pos (by omega)] at hc
        have h9 := ih (j + 1) (by omega)
        rw [hc] at h9
        exact h9
set_option maxHeartbeats 4000000 in
theorem lp_X12_alikeBy {d : Nat} {Q : pQ} {h n : Nat} {e : Nat → Int} {M : pM} (hS : sOk M.1) (hh : h < 4) (hn : M.2.1 317 51 = (n : Int)) (hn2 : n ≤ 157) (he : ∀ k, k < n → M.2.1 350 (4 * k + h) = e k ∧ 0 ≤ e k ∧ e k < 1024)
    (hQ : Q (some (.int (iI ((mxF e n : Nat) : Int)))) M) :
    ∀ (m a mo : Nat) (l4 l5 : Option Value), a + m = n → mo ≤ n → (∀ k, k < a → cnt e (e k) n ≤ mo) → (mo = 0 ∨ ∃ k, k < a ∧ cnt e (e k) n = mo) →
      Go (Ct d) Q yX12_alikeBy cX12_alikeBy (some .int) 0 0 4 [some (.ref 317), some (.int (iI ((h : Nat) : Int))), some (.int (iI ((mo : Nat) : Int))), some (.int (iI ((a : Nat) : Int))), l4, l5] [] M := by
  intro m
  induction m with
  | zero =>
    intro a mo l4 l5 hm hmo h1 h2
    obtain rfl : a = n := by omega
    refine r_iload3 (pc2 := 5) dX12_alikeBy_4 rfl ?_
    refine r_aload0 (pc2 := 6) dX12_alikeBy_5 rfl ?_
    refine r_getI (z := ((a : Nat) : Int)) (pc2 := 9) dX12_alikeBy_6 rfl (Or.inl fX12_397) (hK_317 hS) hn ?_
    refine r_icge (tgt := 86) (pc2 := 12) dX12_alikeBy_9 rfl (by decide) ⟨by omega, by omega⟩ ⟨by omega, by omega⟩ (fun b_9 => ?_) (fun b_9 => ?_)
    · refine r_iload2 (pc2 := 87) dX12_alikeBy_86 rfl ?_
      refine r_ireti dX12_alikeBy_87 rfl ?_
      rw [(mx_of h1 h2).eq (mxF_is e a)]; exact hQ
    · exact absurd b_9 (by omega)
  | succ m ih =>
    intro a mo l4 l5 hm hmo h1 h2
    have hc := cnt_le (e := e) (v := e a) n
    refine r_iload3 (pc2 := 5) dX12_alikeBy_4 rfl ?_
    refine r_aload0 (pc2 := 6) dX12_alikeBy_5 rfl ?_
    refine r_getI (z := ((n : Nat) : Int)) (pc2 := 9) dX12_alikeBy_6 rfl (Or.inl fX12_397) (hK_317 hS) hn ?_
    refine r_icge (tgt := 86) (pc2 := 12) dX12_alikeBy_9 rfl (by decide) ⟨by omega, by omega⟩ ⟨by omega, by omega⟩ (fun b_9 => ?_) (fun b_9 => ?_)
    · refine r_iload2 (pc2 := 87) dX12_alikeBy_86 rfl ?_
      refine r_ireti dX12_alikeBy_87 rfl ?_
      exact absurd b_9 (by omega)
    · refine r_iconst (pc2 := 13) dX12_alikeBy_12 rfl ?_
      refine r_istore4 (pc2 := 15) dX12_alikeBy_13 rfl rfl ?_
      refine r_iconst (pc2 := 16) dX12_alikeBy_15 rfl ?_
      refine r_istore5 (pc2 := 18) dX12_alikeBy_16 rfl rfl ?_
      refine lp2_X12_alikeBy hS hh hn hn2 (by omega) he ?_ n 0 (by omega)
      refine r_iload4 (pc2 := 69) dX12_alikeBy_67 rfl ?_
      refine r_iload2 (pc2 := 70) dX12_alikeBy_69 rfl ?_
      refine r_icle (tgt := 78) (pc2 := 73) dX12_alikeBy_70 rfl (by decide) ⟨by omega, by omega⟩ ⟨by omega, by omega⟩ (fun b_70 => ?_) (fun b_70 => ?_)
      · refine r_iload2 (pc2 := 79) dX12_alikeBy_78 rfl ?_
        refine r_istore2 (pc2 := 80) dX12_alikeBy_79 rfl rfl ?_
        refine r_iinc3 (z := ((a + 1 : Nat) : Int)) (pc2 := 83) dX12_alikeBy_80 rfl (by omega) rfl ?_
        refine r_goto (tgt := 4) dX12_alikeBy_83 (by decide) ?_
        refine ih (a + 1) mo _ _ (by omega) hmo (fun k hk => ?_) ?_
        · by_cases u : k = a
          · subst u; omega
          · exact h1 k (by omega)
        · rcases h2 with h2 | ⟨k, k1, k2⟩
          · exact Or.inl h2
          · exact Or.inr ⟨k, by omega, k2⟩
      · refine r_iload4 (pc2 := 75) dX12_alikeBy_73 rfl ?_
        refine r_goto (tgt := 79) dX12_alikeBy_75 (by decide) ?_
        refine r_istore2 (pc2 := 80) dX12_alikeBy_79 rfl rfl ?_
        refine r_iinc3 (z := ((a + 1 : Nat) : Int)) (pc2 := 83) dX12_alikeBy_80 rfl (by omega) rfl ?_
        refine r_goto (tgt := 4) dX12_alikeBy_83 (by decide) ?_
        refine ih (a + 1) (cnt e (e a) n) _ _ (by omega) hc (fun k hk => ?_) (Or.inr ⟨a, by omega, rfl⟩)
        by_cases u : k = a
        · subst u; exact Nat.le_refl _
        · have := h1 k (by omega); omega
set_option maxHeartbeats 4000000 in
theorem c_X12_alikeBy {d : Nat} {M : pM} {h n : Nat} {e : Nat → Int} (hS : sOk M.1) (hh : h < 4) (hn : M.2.1 317 51 = (n : Int)) (hn2 : n ≤ 157) (he : ∀ k, k < n → M.2.1 350 (4 * k + h) = e k ∧ 0 ≤ e k ∧ e k < 1024) : Ct (d + 1) 0 0 yX12_alikeBy [.ref 317, .int (iI ((h : Nat) : Int))] M (fun v M2 => v = some (.int (iI ((mxF e n : Nat) : Int))) ∧ M2 = M) := by
  refine ct_in (d := d) kX12_alikeBy rfl (by decide) (Nat.le_of_ble_eq_true rfl) (by decide) ?_
  show Go (Ct d) _ yX12_alikeBy cX12_alikeBy (some .int) 0 0 0 [some (.ref 317), some (.int (iI ((h : Nat) : Int))), none, none, none, none] [] M
  refine r_iconst (pc2 := 1) dX12_alikeBy_0 rfl ?_
  refine r_istore2 (pc2 := 2) dX12_alikeBy_1 rfl rfl ?_
  refine r_iconst (pc2 := 3) dX12_alikeBy_2 rfl ?_
  refine r_istore3 (pc2 := 4) dX12_alikeBy_3 rfl rfl ?_
  exact lp_X12_alikeBy hS hh hn hn2 he ⟨rfl, rfl⟩ n 0 0 _ _ (by omega) (by omega) (fun k hk => absurd hk (by omega)) (Or.inl rfl)
