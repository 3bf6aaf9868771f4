/-! cutAll as a whole -/
def MT (M : pM) (n : Nat) (K : Nat → Int) (S V I : Nat → Nat) : Prop := (∀ i, i ≤ n → M.2.1 319 i = mSo (K i) ∧ M.2.1 320 i = ((S i : Nat) : Int)) ∧ (∀ i, i < n → K i = 19 → M.2.2 321 i = lN (V i)) ∧ (∀ i, i < n → isW (K i) → M.2.2 321 i = lN (m37 8 (I i))) ∧ ∀ i, i < n → 40 ≤ K i → M.2.2 321 i = jL (K i)
set_option maxHeartbeats 4000000 in
theorem c_X12_cutAll {d : Nat} {M : pM} {L : Nat} {s : Nat → Int} (hS : sOk M.1) (hL : L ≤ 1000) (hl : M.2.1 317 2 = (L : Int)) (hs : ∀ j, j < L → M.2.1 318 j = s j ∧ 0 ≤ s j ∧ s j ≤ 126) : Ct (d + 3) 0 0 yX12_cutAll [.ref 317] M (fun v M2 => v = none ∧ fr [317, 319, 320, 321] M M2 ∧ M2.2.1 317 = va_up (va_up (va_up (va_up (M.2.1 317) 3 (L : Int)) 2 0) 7 0) 8 0 ∧ MT M2 (tk s L).1 (tokK s L) (tokS s L) (tokV s L) (tokI s L)) := by
  refine ct_in (d := (d + 2)) kX12_cutAll rfl (by decide) (Nat.le_of_ble_eq_true rfl) (by decide) ?_
  show Go (Ct (d + 2)) _ yX12_cutAll cX12_cutAll none 0 0 0 [some (.ref 317), none, none, none, none, none, none] [] M
  refine r_aload0 (pc2 := 1) dX12_cutAll_0 rfl ?_
  refine r_aload0 (pc2 := 2) dX12_cutAll_1 rfl ?_
  refine r_getI (z := ((L : Nat) : Int)) (pc2 := 5) dX12_cutAll_2 rfl (Or.inl fX12_11) (hK_317 hS) hl ?_
  refine r_putI (z := ((L : Nat) : Int)) (pc2 := 8) dX12_cutAll_5 rfl fX12_160 (w12_3 _) (hK_317 hS) (by decide) ?_
  refine r_aload0 (pc2 := 9) dX12_cutAll_8 rfl ?_
  refine r_iconst (pc2 := 10) dX12_cutAll_9 rfl ?_
  refine r_putI (z := 0) (pc2 := 13) dX12_cutAll_10 rfl fX12_11 (w12_2 _) (hK_317 hS) (by decide) ?_
  refine r_iconst (pc2 := 14) dX12_cutAll_13 rfl ?_
  refine r_istore1 (pc2 := 15) dX12_cutAll_14 rfl rfl ?_
  refine r_iconst (pc2 := 16) dX12_cutAll_15 rfl ?_
  refine r_istore2 (pc2 := 17) dX12_cutAll_16 rfl rfl ?_
  obtain ⟨M1, h1⟩ : ∃ M1, M1 = (pI (pI M 317 3 ((L : Nat) : Int)) 317 2 0) := ⟨_, rfl⟩
  rw [← h1]
  have f1 : fr [317] M M1 := by rw [h1]; exact (fr.rf.I (by decide)).I (by decide)
  have hl1 : M1.2.1 317 3 = (L : Int) := by rw [h1, pI_nk (by decide), pI_at]
  refine lp_X12_cutAll (d := d) (L := L) (s := s) M1 (f1.ok hS) hL hl1 (fun j hj => by rw [f1.i (by decide)]; exact hs j hj) (fun M2 l3 l4 l5 l6 hf2 hT => ?_) L 0 M1 _ _ _ _ (by omega) (by omega) rfl rfl fr.rf (fun i hi => absurd hi (by show ¬ i < 0; omega)) (Or.inr (by show ¬ (srt (s 0) = 21 ∧ _); omega))
  have hl2 : M2.2.1 317 3 = (L : Int) := by rw [hf2.i (by decide)]; exact hl1
  have hI := (tk_I s L).1
  refine r_aload0 (pc2 := 280) dX12_cutAll_279 rfl ?_
  refine r_getR (pc2 := 283) dX12_cutAll_280 rfl fX12_24 (hK_317 (hf2.ok (f1.ok hS))) (hR_317_4 (hf2.ok (f1.ok hS))) ?_
  refine r_iload1 (pc2 := 284) dX12_cutAll_283 rfl ?_
  refine r_iconst (pc2 := 285) dX12_cutAll_284 rfl ?_
  refine r_iast (z := 0) (pc2 := 286) dX12_cutAll_285 rfl (hK_319 (hf2.ok (f1.ok hS))) (by decide) ((tk s L).1) rfl (by omega) ?_
  refine r_aload0 (pc2 := 287) dX12_cutAll_286 rfl ?_
  refine r_getR (pc2 := 290) dX12_cutAll_287 rfl fX12_27 (hK_317 (hf2.ok (f1.ok hS))) (hR_317_5 (hf2.ok (f1.ok hS))) ?_
  refine r_iload1 (pc2 := 291) dX12_cutAll_290 rfl ?_
  refine r_aload0 (pc2 := 292) dX12_cutAll_291 rfl ?_
  refine r_getI (z := ((L : Nat) : Int)) (pc2 := 295) dX12_cutAll_292 rfl (Or.inl fX12_160) (hK_317 (hf2.ok (f1.ok hS))) hl2 ?_
  refine r_iast (z := ((L : Nat) : Int)) (pc2 := 296) dX12_cutAll_295 rfl (hK_320 (hf2.ok (f1.ok hS))) (by decide) ((tk s L).1) rfl (by omega) ?_
  refine r_aload0 (pc2 := 297) dX12_cutAll_296 rfl ?_
  refine r_iconst (pc2 := 298) dX12_cutAll_297 rfl ?_
  refine r_putI (z := 0) (pc2 := 301) dX12_cutAll_298 rfl fX12_179 (w12_7 _) (hK_317 (hf2.ok (f1.ok hS))) (by decide) ?_
  refine r_aload0 (pc2 := 302) dX12_cutAll_301 rfl ?_
  refine r_iconst (pc2 := 303) dX12_cutAll_302 rfl ?_
  refine r_putI (z := 0) (pc2 := 306) dX12_cutAll_303 rfl fX12_182 (w12_8 _) (hK_317 (hf2.ok (f1.ok hS))) (by decide) ?_
  refine r_ret dX12_cutAll_306 rfl ?_
  have hf4 : fr [317, 319, 320] M2 (pI (pI (pI (pI M2 319 ((tk s L).1) 0) 320 ((tk s L).1) ((L : Nat) : Int)) 317 7 0) 317 8 0) := (((fr.rf.I (by decide)).I (by decide)).I (by decide)).I (by decide)
  refine ⟨rfl, fr.tr (M1 := M2) ((f1.mono (by decide)).tr (hf2.mono (by decide))) (hf4.mono (by decide)), ?_, ?_, ?_, ?_, ?_⟩
  · show va_up (va_up (M2.2.1 317) 7 0) 8 0 = _
    rw [hf2.i (by decide), h1, pI_eq, pI_eq]
  · intro i hi
    show va_up (M2.2.1 319) (tk s L).1 0 i = mSo (tokK s L i) ∧ va_up (M2.2.1 320) (tk s L).1 (L : Int) i = ((tokS s L i : Nat) : Int)
    by_cases u : i = (tk s L).1
    · subst u; rw [up_at, up_at, tokK, tokS, if_neg (Nat.lt_irrefl _), if_neg (Nat.lt_irrefl _)]; exact ⟨rfl, rfl⟩
    · rw [up_ne u, up_ne u, tokK, tokS, if_pos (by omega), if_pos (by omega)]
      have := hT i (by omega)
      exact ⟨this.2.1, this.1⟩
  · intro i hi q
    rw [tokK, if_pos hi] at q
    exact (hT i hi).2.2.1 q
  · intro i hi q
    rw [tokK, if_pos hi] at q
    exact (hT i hi).2.2.2.1 q
  · intro i hi q
    rw [tokK, if_pos hi] at q ⊢
    exact (hT i hi).2.2.2.2 q
