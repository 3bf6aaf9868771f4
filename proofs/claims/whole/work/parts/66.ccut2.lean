/-! the tokens of a text of L signs, and what the class has of them behind cut -/
def tokK (s : Nat → Int) (L i : Nat) : Int := if i < (tk s L).1 then tKd s ((tk s L).2.2.1 i) ((tk s L).2.2.2 i) else 22
def tokS (s : Nat → Int) (L i : Nat) : Nat := if i < (tk s L).1 then (tk s L).2.2.1 i else L
def tokV (s : Nat → Int) (L i : Nat) : Nat := e10 s ((tk s L).2.2.1 i) ((tk s L).2.2.2 i - (tk s L).2.2.1 i)
def tokI (s : Nat → Int) (L i : Nat) : Nat := e256 s ((tk s L).2.2.1 i) ((tk s L).2.2.2 i - (tk s L).2.2.1 i)
def isW (k : Int) : Prop := 1 ≤ k ∧ k ≤ 18
/-- what is sure of tokens: kinds, places, NUMBERS, WORDS -/
def TOK (n : Nat) (K : Nat → Int) (S V I : Nat → Nat) : Prop := n ≤ 1000 ∧ K n = 22 ∧ S n ≤ 1000 ∧ (∀ i, i < n → (1 ≤ K i ∧ K i ≤ 20) ∨ K i = 40 ∨ K i = 41 ∨ K i = 45 ∨ K i = 59) ∧ (∀ i, i < n → K i = 19 → V i ≤ 999) ∧ (∀ i, i < n → isW (K i) → vId (I i) ∧ K i = wKd (I i)) ∧
  (∀ i, i < n → S i + kwL (K i).toNat ≤ S (i + 1)) ∧ (∀ i, i < n → (isW (K i) ∧ isW (K (i + 1)) ∨ K i = 19 ∧ K (i + 1) = 19) → S i + kwL (K i).toNat + 1 ≤ S (i + 1))
theorem kwL_1 {k : Nat} (h : k = 0 ∨ 18 ≤ k) : kwL k = 1 := by
  rcases h with rfl | h
  · rfl
  · unfold kwL
    split <;> first | omega | rfl
theorem tKd_r {s : Nat → Int} {a e : Nat} (h : srt (s a) ≠ 21) : ((1 ≤ tKd s a e ∧ tKd s a e ≤ 20) ∨ tKd s a e = 40 ∨ tKd s a e = 41 ∨ tKd s a e = 45 ∨ tKd s a e = 59) ∧ (isW (tKd s a e) → srt (s a) = 18 ∧ e - a ≤ 8 ∧ tKd s a e = wKd (e256 s a (e - a))) ∧ (tKd s a e = 19 → srt (s a) = 19 ∧ e - a ≤ 3) := by
  have hr := srt_r (c := s a)
  have hw := wKd_r (e256 s a (e - a))
  unfold tKd isW
  split
  · split
    · exact ⟨by omega, fun _ => ⟨by omega, by omega, rfl⟩, fun q => by omega⟩
    · exact ⟨by omega, fun q => by omega, fun q => by omega⟩
  · split
    · split
      · exact ⟨by omega, fun q => by omega, fun _ => ⟨by omega, by omega⟩⟩
      · exact ⟨by omega, fun q => by omega, fun q => by omega⟩
    · exact ⟨by omega, fun q => by omega, fun q => by omega⟩
theorem tok_TOK {s : Nat → Int} {L : Nat} (hL : L ≤ 1000) : TOK (tk s L).1 (tokK s L) (tokS s L) (tokV s L) (tokI s L) := by
  have hI := tk_I s L
  obtain ⟨h1, h2, h3, h4, h5⟩ := hI
  have hk : ∀ i, i < (tk s L).1 → tokK s L i = tKd s ((tk s L).2.2.1 i) ((tk s L).2.2.2 i) := fun i hi => if_pos hi
  have hs : ∀ i, i < (tk s L).1 → tokS s L i = (tk s L).2.2.1 i := fun i hi => if_pos hi
  have hT : ∀ i, i < (tk s L).1 → _ := fun i hi => tKd_r (s := s) (a := (tk s L).2.2.1 i) (e := (tk s L).2.2.2 i) (h2 i hi).2.2.2.1
  have hltr : ∀ i, i < (tk s L).1 → srt (s ((tk s L).2.2.1 i)) = 18 → ltr s ((tk s L).2.2.1 i) ((tk s L).2.2.2 i - (tk s L).2.2.1 i) := fun i hi q j hj => srt_r.1.mp (by rw [(h2 i hi).2.2.1 _ (by omega) (by omega)]; exact q)
  have hdg : ∀ i, i < (tk s L).1 → srt (s ((tk s L).2.2.1 i)) = 19 → ∀ j, j < (tk s L).2.2.2 i - (tk s L).2.2.1 i → 48 ≤ s ((tk s L).2.2.1 i + j) ∧ s ((tk s L).2.2.1 i + j) ≤ 57 := fun i hi q j hj => srt_r.2.1.mp (by rw [(h2 i hi).2.2.1 _ (by omega) (by omega)]; exact q)
  have hnx : ∀ i, i < (tk s L).1 → (tk s L).2.2.2 i ≤ tokS s L (i + 1) := fun i hi => by
    by_cases q : i + 1 < (tk s L).1
    · rw [hs _ q]; exact (h3 i q).1
    · rw [tokS, if_neg q]; exact (h2 i hi).2.1
  have hwl : ∀ i, i < (tk s L).1 → (tk s L).2.2.1 i + kwL (tokK s L i).toNat ≤ (tk s L).2.2.2 i := fun i hi => by
    have g := h2 i hi
    have gT := hT i hi
    by_cases q : isW (tokK s L i) ∧ tokK s L i ≠ 18
    · have q1 := q.1
      rw [hk i hi] at q1
      have q2 := gT.2.1 q1
      have q3 : wKd (e256 s ((tk s L).2.2.1 i) ((tk s L).2.2.2 i - (tk s L).2.2.1 i)) = (((tokK s L i).toNat : Nat) : Int) := by rw [← q2.2.2, ← hk i hi]; have := q.1.1; omega
      have q4 := (wKd_k (k := (tokK s L i).toNat) (by have := q.1.1; omega) (by have := q.1.2; have := q.2; omega)).mp q3
      have q5 := kw_len (tokK s L i).toNat (by have := q.1.1; omega) (by have := q.1.2; have := q.2; omega)
      have q6 := (e256_lt _ (hltr i hi q2.1)).1
      rw [q4] at q6
      have q7 : kwL (tokK s L i).toNat - 1 < (tk s L).2.2.2 i - (tk s L).2.2.1 i := (Nat.pow_lt_pow_iff_right (by decide)).mp (Nat.lt_of_le_of_lt q5 q6)
      have q8 := g.1
      omega
    · have : kwL (tokK s L i).toNat = 1 := kwL_1 (by
        rw [hk i hi] at q ⊢
        have := gT.1
        unfold isW at q
        omega)
      have := g.1
      omega
  refine ⟨by omega, if_neg (Nat.lt_irrefl _), by rw [tokS, if_neg (Nat.lt_irrefl _)]; exact hL, fun i hi => by rw [hk i hi]; exact (hT i hi).1, fun i hi q => ?_, fun i hi q => ?_, fun i hi => ?_, fun i hi q => ?_⟩
  · rw [hk i hi] at q
    have q2 := (hT i hi).2.2 q
    have q3 := e10_lt _ (hdg i hi q2.1)
    have q4 : 10 ^ ((tk s L).2.2.2 i - (tk s L).2.2.1 i) ≤ 10 ^ 3 := Nat.pow_le_pow_right (by decide) q2.2
    unfold tokV
    omega
  · rw [hk i hi] at q ⊢
    have q2 := (hT i hi).2.1 q
    exact ⟨⟨s, _, _, by have := (h2 i hi).1; omega, q2.2.1, hltr i hi q2.1, rfl⟩, q2.2.2⟩
  · rw [hs i hi]
    exact Nat.le_trans (hwl i hi) (hnx i hi)
  · have hi2 : i + 1 < (tk s L).1 := by
      apply Classical.byContradiction
      intro c
      have : tokK s L (i + 1) = 22 := if_neg c
      rw [this] at q
      unfold isW at q
      omega
    have a1 := hwl i hi
    rw [hs i hi, hs _ hi2]
    have a2 := h3 i hi2
    rw [hk i hi, hk _ hi2] at q
    have : (tk s L).2.2.2 i < (tk s L).2.2.1 (i + 1) := by
      rcases q with ⟨q1, q2⟩ | ⟨q1, q2⟩
      · have b1 := ((hT i hi).2.1 q1).1
        have b2 := ((hT _ hi2).2.1 q2).1
        exact a2.2 (by rw [b1, b2]) (Or.inl b1)
      · have b1 := ((hT i hi).2.2 q1).1
        have b2 := ((hT _ hi2).2.2 q2).1
        exact a2.2 (by rw [b1, b2]) (Or.inr b1)
    omega
/-- the class's tokens -/
def CT (M : pM) (n : Nat) (K : Nat → Int) (S V I : Nat → Nat) : Prop := M.2.1 3 6 = (n : Int) ∧ (∀ i, i ≤ n → M.2.1 6 i = K i ∧ M.2.1 7 i = ((S i : Nat) : Int)) ∧ (∀ i, i < n → K i = 19 → M.2.2 8 i = lN (V i)) ∧ ∀ i, i < n → isW (K i) → M.2.2 8 i = lN (I i)
set_option maxHeartbeats 4000000 in
theorem lp2_X8_cut {d : Nat} {Q : pQ} {n : Nat} {la : Int} {l3 : Option Value} {s : Nat → Int} {S E : Nat → Nat} (M0 : pM) (hS0 : sOk M0.1) (hW : cWd M0) (hn : n ≤ 1000) (hT : CTk M0 s (n, la, S, E)) (hl : ∀ i, i < n → srt (s (S i)) ≠ 21 ∧ S i < E i ∧ (srt (s (S i)) = 18 → ltr s (S i) (E i - S i)))
    (hQ : ∀ M2, fr [6] M0 M2 → (∀ j, j < n → M2.2.1 6 j = tKd s (S j) (E j)) → Go (Ct (d + 1)) Q yX8_cut cX8_cut none 0 0 139 [some (.ref 3), some (.int (iI la)), some (.int (iI ((n : Nat) : Int))), l3] [] M2) :
    ∀ (m i : Nat) (M : pM), i + m = n → fr [6] M0 M → (∀ j, j < i → M.2.1 6 j = tKd s (S j) (E j)) → (∀ j, i ≤ j → M.2.1 6 j = M0.2.1 6 j) →
      Go (Ct (d + 1)) Q yX8_cut cX8_cut none 0 0 89 [some (.ref 3), some (.int (iI la)), some (.int (iI ((i : Nat) : Int))), l3] [] M := by
  intro m
  induction m with
  | zero =>
    intro i M hm hfr h1 h2
    obtain rfl : i = n := by omega
    have hS := hfr.ok hS0
    have hnm : M.2.1 3 6 = (i : Int) := by rw [hfr.i (by decide)]; exact hT.1
    refine r_iload2 (pc2 := 90) dX8_cut_89 rfl ?_
    refine r_aload0 (pc2 := 91) dX8_cut_90 rfl ?_
    refine r_getI (z := ((i : Nat) : Int)) (pc2 := 94) dX8_cut_91 rfl (Or.inl fX8_44) (hK_3 hS) hnm ?_
    refine r_icge (tgt := 139) (pc2 := 97) dX8_cut_94 rfl (by decide) ⟨by omega, by omega⟩ ⟨by omega, by omega⟩ (fun b_94 => ?_) (fun b_94 => ?_)
    · exact hQ M hfr h1
    · exact absurd b_94 (by omega)
  | succ m ih =>
    intro i M hm hfr h1 h2
    have hS := hfr.ok hS0
    have hnm : M.2.1 3 6 = (n : Int) := by rw [hfr.i (by decide)]; exact hT.1
    have hTi := hT.2 i (by simp only; omega)
    unfold cTk at hTi
    simp only at hTi
    have hli := hl i (by omega)
    have hki : M.2.1 6 i = k0d s (S i) (E i) := (h2 i (Nat.le_refl _)).trans hTi.2.1
    have hr := srt_r (c := s (S i))
    have hkr : 18 ≤ k0d s (S i) (E i) ∧ k0d s (S i) (E i) ≤ 59 := by unfold k0d; (repeat' split) <;> omega
    have hk18 : k0d s (S i) (E i) = 18 ↔ srt (s (S i)) = 18 ∧ E i - S i ≤ 8 := by unfold k0d; (repeat' split) <;> omega
    refine r_iload2 (pc2 := 90) dX8_cut_89 rfl ?_
    refine r_aload0 (pc2 := 91) dX8_cut_90 rfl ?_
    refine r_getI (z := ((n : Nat) : Int)) (pc2 := 94) dX8_cut_91 rfl (Or.inl fX8_44) (hK_3 hS) hnm ?_
    refine r_icge (tgt := 139) (pc2 := 97) dX8_cut_94 rfl (by decide) ⟨by omega, by omega⟩ ⟨by omega, by omega⟩ (fun b_94 => ?_) (fun b_94 => ?_)
    · refine r_aload0 (pc2 := 140) dX8_cut_139 rfl ?_
      refine r_getR (pc2 := 143) dX8_cut_140 rfl fX8_19 (hK_3 hS) (hR_3_2 hS) ?_
      refine r_aload0 (pc2 := 144) dX8_cut_143 rfl ?_
      refine r_getI (z := ((n : Nat) : Int)) (pc2 := 147) dX8_cut_144 rfl (Or.inl fX8_44) (hK_3 hS) hnm ?_
      refine r_bipush (pc2 := 149) dX8_cut_147 rfl (by decide) (by decide) ?_
      refine r_iast (z := 22) (pc2 := 150) dX8_cut_149 rfl (hK_6 hS) (by decide) n rfl (by omega) ?_
      refine r_aload0 (pc2 := 151) dX8_cut_150 rfl ?_
      refine r_getR (pc2 := 154) dX8_cut_151 rfl fX8_23 (hK_3 hS) (hR_3_3 hS) ?_
      refine r_aload0 (pc2 := 155) dX8_cut_154 rfl ?_
      refine r_getI (z := ((n : Nat) : Int)) (pc2 := 158) dX8_cut_155 rfl (Or.inl fX8_44) (hK_3 hS) hnm ?_
      refine r_aload0 (pc2 := 159) dX8_cut_158 rfl ?_
      refine r_getI (z := (M.2.1 3 5)) (pc2 := 162) dX8_cut_159 rfl (Or.inl fX8_41) (hK_3 hS) rfl ?_
      refine r_iast (z := (M.2.1 3 5)) (pc2 := 163) dX8_cut_162 rfl (hK_7 hS) (by decide) n rfl (by omega) ?_
      refine r_aload0 (pc2 := 164) dX8_cut_163 rfl ?_
      refine r_iconst (pc2 := 165) dX8_cut_164 rfl ?_
      refine r_putI (z := 0) (pc2 := 168) dX8_cut_165 rfl fX8_41 (w8_5 _) (hK_3 hS) (by decide) ?_
      refine r_ret dX8_cut_168 rfl ?_
      exact absurd b_94 (by omega)
    · refine r_aload0 (pc2 := 98) dX8_cut_97 rfl ?_
      refine r_getR (pc2 := 101) dX8_cut_98 rfl fX8_19 (hK_3 hS) (hR_3_2 hS) ?_
      refine r_iload2 (pc2 := 102) dX8_cut_101 rfl ?_
      refine r_aload0 (pc2 := 103) dX8_cut_102 rfl ?_
      refine r_getR (pc2 := 106) dX8_cut_103 rfl fX8_19 (hK_3 hS) (hR_3_2 hS) ?_
      refine r_iload2 (pc2 := 107) dX8_cut_106 rfl ?_
      refine r_iald (z := (k0d s (S i) (E i))) (pc2 := 108) dX8_cut_107 rfl (hK_6 hS) i rfl (by omega) hki ?_
      refine r_bipush (pc2 := 110) dX8_cut_108 rfl (by decide) (by decide) ?_
      refine r_icne (tgt := 126) (pc2 := 113) dX8_cut_110 rfl (by decide) ⟨by omega, by omega⟩ ⟨by omega, by omega⟩ (fun b_110 => ?_) (fun b_110 => ?_)
      · refine r_aload0 (pc2 := 127) dX8_cut_126 rfl ?_
        refine r_getR (pc2 := 130) dX8_cut_127 rfl fX8_19 (hK_3 hS) (hR_3_2 hS) ?_
        refine r_iload2 (pc2 := 131) dX8_cut_130 rfl ?_
        refine r_iald (z := (k0d s (S i) (E i))) (pc2 := 132) dX8_cut_131 rfl (hK_6 hS) i rfl (by omega) hki ?_
        refine r_iast (z := (k0d s (S i) (E i))) (pc2 := 133) dX8_cut_132 rfl (hK_6 hS) (by decide) i rfl (by omega) ?_
        refine r_iinc2 (z := ((i + 1 : Nat) : Int)) (pc2 := 136) dX8_cut_133 rfl (by omega) rfl ?_
        refine r_goto (tgt := 89) dX8_cut_136 (by decide) ?_
        refine ih (i + 1) _ (by omega) (hfr.I (by decide)) (fun j hj => ?_) (fun j hj => ?_)
        · by_cases u : j = i
          · subst u
            rw [pI_at]
            unfold k0d at b_110 ⊢; unfold tKd; (repeat' split) <;> first | rfl | omega
          · rw [pI_nk u]; exact h1 j (by omega)
        · rw [pI_nk (by omega)]; exact h2 j (by omega)
      · have h18 := hk18.mp (by omega)
        have h8v : M.2.2 8 i = lN (e256 s (S i) (E i - S i)) := by rw [hfr.j (by decide)]; exact hTi.2.2.1 h18.1 h18.2
        refine r_aload0 (pc2 := 114) dX8_cut_113 rfl ?_
        refine r_aload0 (pc2 := 115) dX8_cut_114 rfl ?_
        refine r_getR (pc2 := 118) dX8_cut_115 rfl fX8_26 (hK_3 hS) (hR_3_4 hS) ?_
        refine r_iload2 (pc2 := 119) dX8_cut_118 rfl ?_
        refine r_lald (z := (lN (e256 s (S i) (E i - S i)))) (pc2 := 120) dX8_cut_119 rfl (hK_8 hS) i rfl (by omega) h8v ?_
        refine r_cv1 (pc2 := 123) dX8_cut_120 rfl vX8_59 (hK_3 hS) (Nat.le_of_ble_eq_true rfl) (c_X8_wordOf (d := d) (x := e256 s (S i) (E i - S i)) hS (fun k k1 k2 => by rw [hfr.j (by decide)]; exact hW k k1 k2) ⟨s, S i, E i - S i, by omega, h18.2, hli.2.2 h18.1, rfl⟩) ?_
        rintro _ M9 ⟨rfl, h9⟩
        rw [h9]
        show Go (Ct (d + 1)) _ yX8_cut cX8_cut none 0 0 123 [some (.ref 3), some (.int (iI la)), some (.int (iI ((i : Nat) : Int))), l3] [.int (iI (wKd (e256 s (S i) (E i - S i)))), .int (iI ((i : Nat) : Int)), .ref 6] M
        refine r_goto (tgt := 132) dX8_cut_123 (by decide) ?_
        refine r_iast (z := (wKd (e256 s (S i) (E i - S i)))) (pc2 := 133) dX8_cut_132 rfl (hK_6 hS) (by decide) i rfl (by omega) ?_
        refine r_iinc2 (z := ((i + 1 : Nat) : Int)) (pc2 := 136) dX8_cut_133 rfl (by omega) rfl ?_
        refine r_goto (tgt := 89) dX8_cut_136 (by decide) ?_
        refine ih (i + 1) _ (by omega) (hfr.I (by decide)) (fun j hj => ?_) (fun j hj => ?_)
        · by_cases u : j = i
          · subst u
            rw [pI_at]
            rw [tKd, if_pos h18.1, if_pos h18.2]
          · rw [pI_nk u]; exact h1 j (by omega)
        · rw [pI_nk (by omega)]; exact h2 j (by omega)
set_option maxHeartbeats 4000000 in
theorem c_X8_cut {d : Nat} {M : pM} {L : Nat} {s : Nat → Int} (hS : sOk M.1) (hW : cWd M) (hL : L ≤ 1000) (hl : M.2.1 3 5 = (L : Int)) (hs : ∀ j, j < L → M.2.1 5 j = s j ∧ 0 ≤ s j ∧ s j ≤ 126) : Ct (d + 2) 0 0 yX8_cut [.ref 3] M (fun v M2 => v = none ∧ fr [3, 6, 7, 8] M M2 ∧ (∀ j, j ≠ 5 → j ≠ 6 → M2.2.1 3 j = M.2.1 3 j) ∧ M2.2.1 3 5 = 0 ∧ CT M2 (tk s L).1 (tokK s L) (tokS s L) (tokV s L) (tokI s L)) := by
  refine ct_in (d := (d + 1)) kX8_cut rfl (by decide) (Nat.le_of_ble_eq_true rfl) (by decide) ?_
  show Go (Ct (d + 1)) _ yX8_cut cX8_cut none 0 0 0 [some (.ref 3), none, none, none] [] M
  refine r_aload0 (pc2 := 1) dX8_cut_0 rfl ?_
  refine r_iconst (pc2 := 2) dX8_cut_1 rfl ?_
  refine r_putI (z := 0) (pc2 := 5) dX8_cut_2 rfl fX8_44 (w8_6 _) (hK_3 hS) (by decide) ?_
  refine r_bipush (pc2 := 7) dX8_cut_5 rfl (by decide) (by decide) ?_
  refine r_istore1 (pc2 := 8) dX8_cut_7 rfl rfl ?_
  refine r_iconst (pc2 := 9) dX8_cut_8 rfl ?_
  refine r_istore2 (pc2 := 10) dX8_cut_9 rfl rfl ?_
  obtain ⟨M1, h1⟩ : ∃ M1, M1 = pI M 3 6 0 := ⟨_, rfl⟩
  rw [← h1]
  have f1 : fr [3] M M1 := by rw [h1]; exact fr.rf.I (by decide)
  have hI := tk_I s L
  have hli : ∀ i, i < (tk s L).1 → srt (s ((tk s L).2.2.1 i)) ≠ 21 ∧ (tk s L).2.2.1 i < (tk s L).2.2.2 i ∧ (srt (s ((tk s L).2.2.1 i)) = 18 → ltr s ((tk s L).2.2.1 i) ((tk s L).2.2.2 i - (tk s L).2.2.1 i)) := fun i hi => ⟨(hI.2.1 i hi).2.2.2.1, (hI.2.1 i hi).1, fun q j hj => srt_r.1.mp (by rw [(hI.2.1 i hi).2.2.1 _ (by omega) (by omega)]; exact q)⟩
  refine lp1_X8_cut (d := d) (L := L) (s := s) M1 (f1.ok hS) hL (by rw [h1, pI_nk (by decide)]; exact hl) (fun j hj => by rw [f1.i (by decide)]; exact hs j hj) (fun M2 l3 la hg2 hg3 hT => ?_) L 0 M1 _ (by omega) fr.rf (fun _ _ => rfl) ⟨by rw [h1, pI_at]; rfl, fun i hi => absurd hi (by show ¬ i < 0; omega)⟩
  have hf2 : fr [3, 6, 7, 8] M M2 := (f1.mono (by decide)).tr hg2
  have h23 : ∀ j, j ≠ 6 → M2.2.1 3 j = M.2.1 3 j := fun j hj => by rw [hg3 j hj, h1, pI_nk hj]
  refine r_iconst (pc2 := 88) dX8_cut_87 rfl ?_
  refine r_istore2 (pc2 := 89) dX8_cut_88 rfl rfl ?_
  refine lp2_X8_cut (d := d) (n := (tk s L).1) (la := la) (s := s) (S := (tk s L).2.2.1) (E := (tk s L).2.2.2) M2 (hf2.ok hS) (fun k k1 k2 => by rw [hf2.j (by decide)]; exact hW k k1 k2) (by have := hI.1; omega) hT hli (fun M3 hf3 h6 => ?_) (tk s L).1 0 M2 (by omega) fr.rf (fun j hj => absurd hj (by omega)) (fun j _ => rfl)
  have hn3 : M3.2.1 3 6 = (((tk s L).1 : Nat) : Int) := by rw [hf3.i (by decide)]; exact hT.1
  have hl3 : M3.2.1 3 5 = (L : Int) := by rw [hf3.i (by decide), h23 5 (by decide)]; exact hl
  have hnl : (tk s L).1 ≤ 1000 := by have := hI.1; omega
  refine r_aload0 (pc2 := 140) dX8_cut_139 rfl ?_
  refine r_getR (pc2 := 143) dX8_cut_140 rfl fX8_19 (hK_3 (hf3.ok (hf2.ok hS))) (hR_3_2 (hf3.ok (hf2.ok hS))) ?_
  refine r_aload0 (pc2 := 144) dX8_cut_143 rfl ?_
  refine r_getI (z := ((((tk s L).1) : Nat) : Int)) (pc2 := 147) dX8_cut_144 rfl (Or.inl fX8_44) (hK_3 (hf3.ok (hf2.ok hS))) hn3 ?_
  refine r_bipush (pc2 := 149) dX8_cut_147 rfl (by decide) (by decide) ?_
  refine r_iast (z := 22) (pc2 := 150) dX8_cut_149 rfl (hK_6 (hf3.ok (hf2.ok hS))) (by decide) (((tk s L).1)) rfl (by omega) ?_
  refine r_aload0 (pc2 := 151) dX8_cut_150 rfl ?_
  refine r_getR (pc2 := 154) dX8_cut_151 rfl fX8_23 (hK_3 (hf3.ok (hf2.ok hS))) (hR_3_3 (hf3.ok (hf2.ok hS))) ?_
  refine r_aload0 (pc2 := 155) dX8_cut_154 rfl ?_
  refine r_getI (z := ((((tk s L).1) : Nat) : Int)) (pc2 := 158) dX8_cut_155 rfl (Or.inl fX8_44) (hK_3 (hf3.ok (hf2.ok hS))) hn3 ?_
  refine r_aload0 (pc2 := 159) dX8_cut_158 rfl ?_
  refine r_getI (z := ((L : Nat) : Int)) (pc2 := 162) dX8_cut_159 rfl (Or.inl fX8_41) (hK_3 (hf3.ok (hf2.ok hS))) hl3 ?_
  refine r_iast (z := ((L : Nat) : Int)) (pc2 := 163) dX8_cut_162 rfl (hK_7 (hf3.ok (hf2.ok hS))) (by decide) (((tk s L).1)) rfl (by omega) ?_
  refine r_aload0 (pc2 := 164) dX8_cut_163 rfl ?_
  refine r_iconst (pc2 := 165) dX8_cut_164 rfl ?_
  refine r_putI (z := 0) (pc2 := 168) dX8_cut_165 rfl fX8_41 (w8_5 _) (hK_3 (hf3.ok (hf2.ok hS))) (by decide) ?_
  refine r_ret dX8_cut_168 rfl ?_
  have hf4 : fr [3, 6, 7] M3 (pI (pI (pI M3 6 (((tk s L).1)) 22) 7 (((tk s L).1)) ((L : Nat) : Int)) 3 5 0) := ((fr.rf.I (by decide)).I (by decide)).I (by decide)
  refine ⟨rfl, fr.tr (M1 := M3) (hf2.tr (hf3.mono (by decide))) (hf4.mono (by decide)), ?_, ?_, ?_, ?_, ?_, ?_⟩
  · intro j h5 h6
    rw [pI_nk h5, pI_ne (by decide), pI_ne (by decide), hf3.i (by decide)]; exact h23 j h6
  · exact pI_at
  · rw [pI_nk (by decide), pI_ne (by decide), pI_ne (by decide), hf3.i (by decide)]; exact hT.1
  · intro i hi
    show va_up (M3.2.1 6) (tk s L).1 22 i = tokK s L i ∧ va_up (M3.2.1 7) (tk s L).1 (L : Int) i = ((tokS s L i : Nat) : Int)
    by_cases u : i = (tk s L).1
    · subst u; rw [up_at, up_at, tokK, tokS, if_neg (Nat.lt_irrefl _), if_neg (Nat.lt_irrefl _)]; exact ⟨rfl, rfl⟩
    · rw [up_ne u, up_ne u, tokK, tokS, if_pos (by omega), if_pos (by omega)]
      exact ⟨h6 i (by omega), by rw [hf3.i (by decide)]; exact (hT.2 i (by omega)).1⟩
  · intro i hi q
    rw [tokK, if_pos hi] at q
    have q2 := (tKd_r (hli i hi).1).2.2 q
    show M3.2.2 8 i = _
    rw [hf3.j (by decide)]
    exact (hT.2 i hi).2.2.2 q2.1 q2.2
  · intro i hi q
    rw [tokK, if_pos hi] at q
    have q2 := (tKd_r (hli i hi).1).2.1 q
    show M3.2.2 8 i = _
    rw [hf3.j (by decide)]
    exact (hT.2 i hi).2.2.1 q2.1 q2.2.1
