/-! alike and telling: the class -/
def frX (sa sb : Nat) (M M2 : pM) : Prop := fr [277 + 10 * sa, 277 + 10 * sb, 256, 257, 258, 259, 260, 261, 262, 264, 265] M M2 ∧ ∀ x, x = 277 + 10 * sa ∨ x = 277 + 10 * sb → M2.2.1 x = M.2.1 x ∧ ∀ k, k ≠ 12 → M2.2.2 x k = M.2.2 x k
def tlV (M : pM) (B : Nat → bS) (sa sb : Nat) : Prop := M.2.1 264 1 = 1 ∧ M.2.1 264 2 = (sa : Int) ∧ M.2.1 264 3 = (sb : Int) ∧ M.2.1 264 4 = (tlF (B (1 + sa)).1 (B (1 + sb)).1 (B (1 + sa)).2 (B (1 + sb)).2).1 ∧ ∀ j : Nat, (j : Int) < (tlF (B (1 + sa)).1 (B (1 + sb)).1 (B (1 + sa)).2 (B (1 + sb)).2).1 → M.2.1 265 j = (tlF (B (1 + sa)).1 (B (1 + sb)).1 (B (1 + sa)).2 (B (1 + sb)).2).2 j
def CTl (M : pM) (B : Nat → bS) : Prop := M.2.1 264 1 = 0 ∨ ∃ sa sb : Nat, sa < 4 ∧ sb < 4 ∧ tlV M B sa sb
set_option maxHeartbeats 4000000 in
theorem c_X9_look {d : Nat} {M : pM} {sa sb : Nat} {B : Nat → bS} {ix jx : Nat → Nat} (hS : sOk M.1) (ha : sa < 4) (hb : sb < 4) (hab : sa ≠ sb) (hX0 : CF M (277 + 10 * sa) (B (1 + sa)) ix) (hY0 : CF M (277 + 10 * sb) (B (1 + sb)) jx) (hoa : bOk (B (1 + sa)).1 ∧ bK (B (1 + sa)).1 (B (1 + sa)).2) (hob : bOk (B (1 + sb)).1 ∧ bK (B (1 + sb)).1 (B (1 + sb)).2) (hSr : SNr M) (hT : CTl M B) : Ct (d + 5) 0 0 yX9_look [.ref 264, .ref 252, .int (iI ((sa : Nat) : Int)), .int (iI ((sb : Nat) : Int)), .ref 256] M (fun v M2 => v = none ∧ tlV M2 B sa sb ∧ frX sa sb M M2 ∧ SNr M2) := by
  refine ct_in (d := (d + 4)) kX9_look rfl (by decide) (Nat.le_of_ble_eq_true rfl) (by decide) ?_
  show Go (Ct (d + 4)) _ yX9_look cX9_look none 0 0 0 [some (.ref 264), some (.ref 252), some (.int (iI ((sa : Nat) : Int))), some (.int (iI ((sb : Nat) : Int))), some (.ref 256)] [] M
  obtain ⟨k1, ek1⟩ : ∃ k, M.2.1 264 1 = k := ⟨_, rfl⟩
  obtain ⟨k2, ek2⟩ : ∃ k, M.2.1 264 2 = k := ⟨_, rfl⟩
  obtain ⟨k3, ek3⟩ : ∃ k, M.2.1 264 3 = k := ⟨_, rfl⟩
  have hk1 : k1 = 0 ∨ (k1 = 1 ∧ (0 ≤ k2 ∧ k2 < 4) ∧ 0 ≤ k3 ∧ k3 < 4) := by
    rcases hT with e | ⟨ta, tb, ta4, tb4, t1, t2, t3, t4⟩
    · exact Or.inl (by omega)
    · exact Or.inr ⟨by omega, by omega, by omega⟩
  have hb_b := sB_is sa ha
  have hb_c := sB_is sb hb
  obtain ⟨b, eb⟩ : ∃ b, b = 277 + 10 * sa := ⟨_, rfl⟩
  obtain ⟨c, ec⟩ : ∃ c, c = 277 + 10 * sb := ⟨_, rfl⟩
  rw [← eb] at hb_b
  rw [← ec] at hb_c
  have h252a : M.1.2.2 252 sa = some b := by rw [eb]; exact hR252 hS ha
  have h252b : M.1.2.2 252 sb = some c := by rw [ec]; exact hR252 hS hb
  have hX : CF M b (B (1 + sa)) ix := by rw [eb]; exact hX0
  have hY : CF M c (B (1 + sb)) jx := by rw [ec]; exact hY0
  refine r_aload0 (pc2 := 1) dX9_look_0 rfl ?_
  refine r_getI (z := k1) (pc2 := 4) dX9_look_1 rfl (Or.inr fX9_15) (hK_264 hS) ek1 ?_
  refine r_ifeq (tgt := 23) (pc2 := 7) dX9_look_4 rfl (by decide) ⟨by omega, by omega⟩ (fun b_4 => ?_) (fun b_4 => ?_)
  · refine r_aload0 (pc2 := 24) dX9_look_23 rfl ?_
    refine r_iconst (pc2 := 25) dX9_look_24 rfl ?_
    refine r_putZ (z := 1) (pc2 := 28) dX9_look_25 rfl fX9_15 (w9_1 _) (hK_264 hS) (by decide) (by omega) ?_
    refine r_aload0 (pc2 := 29) dX9_look_28 rfl ?_
    refine r_iload2 (pc2 := 30) dX9_look_29 rfl ?_
    refine r_putI (z := ((sa : Nat) : Int)) (pc2 := 33) dX9_look_30 rfl fX9_19 (w9_2 _) (hK_264 hS) (by decide) ?_
    refine r_aload0 (pc2 := 34) dX9_look_33 rfl ?_
    refine r_iload3 (pc2 := 35) dX9_look_34 rfl ?_
    refine r_putI (z := ((sb : Nat) : Int)) (pc2 := 38) dX9_look_35 rfl fX9_23 (w9_3 _) (hK_264 hS) (by decide) ?_
    refine r_aload0 (pc2 := 39) dX9_look_38 rfl ?_
    refine r_aload0 (pc2 := 40) dX9_look_39 rfl ?_
    refine r_aload1 (pc2 := 41) dX9_look_40 rfl ?_
    refine r_iload2 (pc2 := 42) dX9_look_41 rfl ?_
    refine r_aald (pc2 := 43) dX9_look_42 rfl (hK_252 hS) sa rfl (by omega) h252a ?_
    refine r_aload1 (pc2 := 44) dX9_look_43 rfl ?_
    refine r_iload3 (pc2 := 45) dX9_look_44 rfl ?_
    refine r_aald (pc2 := 46) dX9_look_45 rfl (hK_252 hS) sb rfl (by omega) h252b ?_
    refine r_aload4 (pc2 := 48) dX9_look_46 rfl ?_
    obtain ⟨M1, h1⟩ : ∃ M1, M1 = pI (pI (pI M 264 1 1) 264 2 ((sa : Nat) : Int)) 264 3 ((sb : Nat) : Int) := ⟨_, rfl⟩
    rw [← h1]
    have hS1 : sOk M1.1 := by rw [h1]; exact hS
    have n1 : ∀ a, a ≠ 264 → M1.2.1 a = M.2.1 a := fun a ha => by rw [h1, pI_ne ha, pI_ne ha, pI_ne ha]
    have j1 : M1.2.2 = M.2.2 := by rw [h1]; rfl
    have hX1 : CF M1 b (B (1 + sa)) ix := hX.of (fun a a1 a2 => ⟨n1 a (by omega), by rw [j1]⟩)
    have hY1 : CF M1 c (B (1 + sb)) jx := hY.of (fun a a1 a2 => ⟨n1 a (by omega), by rw [j1]⟩)
    have hSr1 : SNr M1 := by unfold SNr; rw [n1 261 (by decide), n1 262 (by decide)]; exact hSr
    refine r_cv3 (pc2 := 51) dX9_look_48 rfl vX9_26 (hK_264 hS1) (Nat.le_of_ble_eq_true rfl) (c_X9_search (d := d) (v := M1.2.2 b 11) (w := M1.2.2 c 11) hS1 hb_b hb_c (by omega) hX1.1 hY1.1 hoa.1 hob.1 rfl rfl hX1.2.1 hY1.2.1 hoa.2 hob.2 hSr1) ?_
    rintro _ M2 ⟨rfl, M3, f3, r3, f2, e2⟩
    have hS2 := f2.ok (f3.1.ok hS1)
    show Go (Ct (d + 4)) _ yX9_look cX9_look none 0 0 51 [some (.ref 264), some (.ref 252), some (.int (iI ((sa : Nat) : Int))), some (.int (iI ((sb : Nat) : Int))), some (.ref 256)] [.int (iI (tlF (B (1 + sa)).1 (B (1 + sb)).1 (B (1 + sa)).2 (B (1 + sb)).2).1), .ref 264] M2
    refine r_putI (z := (tlF (B (1 + sa)).1 (B (1 + sb)).1 (B (1 + sa)).2 (B (1 + sb)).2).1) (pc2 := 54) dX9_look_51 rfl fX9_30 (w9_4 _) (hK_264 hS2) (by decide) ?_
    refine r_ret dX9_look_54 rfl ?_
    have m1 : ∀ k, M2.2.1 264 k = M1.2.1 264 k := fun k => by rw [f2.i (by decide), f3.1.i (by rw [eb, ec]; simp only [List.mem_append, List.mem_cons, List.not_mem_nil, or_false]; omega)]
    refine ⟨rfl, ⟨?_, ?_, ?_, pI_at, fun j hj => ?_⟩, ⟨?_, fun x hx => ?_⟩, ?_⟩
    · rw [pI_nk (by decide), m1, h1, pI_nk (by decide), pI_nk (by decide), pI_at]
    · rw [pI_nk (by decide), m1, h1, pI_nk (by decide), pI_at]
    · rw [pI_nk (by decide), m1, h1, pI_at]
    · rw [pI_ne (by decide)]; exact e2 j hj
    · rw [← eb, ← ec]
      refine fr.I (fr.tr (M1 := M1) ?_ (fr.tr (M1 := M3) (f3.1.mono ?_) (f2.mono ?_))) (by simp)
      · rw [h1]; exact ((fr.rf.I (by simp)).I (by simp)).I (by simp)
      · intro a ha; simp only [List.mem_append, List.mem_cons, List.not_mem_nil, or_false] at ha ⊢; omega
      · intro a ha; simp only [List.mem_cons, List.not_mem_nil, or_false] at ha ⊢; omega
    · have q := f3.2 x (by rw [eb, ec]; simp only [List.mem_cons, List.not_mem_nil, or_false]; omega)
      have q2 := f2.2 x (by simp only [List.mem_cons, List.not_mem_nil, or_false]; omega)
      refine ⟨?_, fun k hk9 => ?_⟩
      · rw [pI_ne (by omega), q2.1, q.1]; exact n1 x (by omega)
      · show M2.2.2 x k = _; rw [q2.2, q.2 k hk9, j1]
    · unfold SNr; rw [pI_ne (by decide), pI_ne (by decide), f2.i (by decide), f2.i (by decide)]; exact r3
  · refine r_aload0 (pc2 := 8) dX9_look_7 rfl ?_
    refine r_getI (z := k2) (pc2 := 11) dX9_look_8 rfl (Or.inl fX9_19) (hK_264 hS) ek2 ?_
    refine r_iload2 (pc2 := 12) dX9_look_11 rfl ?_
    refine r_icne (tgt := 23) (pc2 := 15) dX9_look_12 rfl (by decide) ⟨by omega, by omega⟩ ⟨by omega, by omega⟩ (fun b_12 => ?_) (fun b_12 => ?_)
    · refine r_aload0 (pc2 := 24) dX9_look_23 rfl ?_
      refine r_iconst (pc2 := 25) dX9_look_24 rfl ?_
      refine r_putZ (z := 1) (pc2 := 28) dX9_look_25 rfl fX9_15 (w9_1 _) (hK_264 hS) (by decide) (by omega) ?_
      refine r_aload0 (pc2 := 29) dX9_look_28 rfl ?_
      refine r_iload2 (pc2 := 30) dX9_look_29 rfl ?_
      refine r_putI (z := ((sa : Nat) : Int)) (pc2 := 33) dX9_look_30 rfl fX9_19 (w9_2 _) (hK_264 hS) (by decide) ?_
      refine r_aload0 (pc2 := 34) dX9_look_33 rfl ?_
      refine r_iload3 (pc2 := 35) dX9_look_34 rfl ?_
      refine r_putI (z := ((sb : Nat) : Int)) (pc2 := 38) dX9_look_35 rfl fX9_23 (w9_3 _) (hK_264 hS) (by decide) ?_
      refine r_aload0 (pc2 := 39) dX9_look_38 rfl ?_
      refine r_aload0 (pc2 := 40) dX9_look_39 rfl ?_
      refine r_aload1 (pc2 := 41) dX9_look_40 rfl ?_
      refine r_iload2 (pc2 := 42) dX9_look_41 rfl ?_
      refine r_aald (pc2 := 43) dX9_look_42 rfl (hK_252 hS) sa rfl (by omega) h252a ?_
      refine r_aload1 (pc2 := 44) dX9_look_43 rfl ?_
      refine r_iload3 (pc2 := 45) dX9_look_44 rfl ?_
      refine r_aald (pc2 := 46) dX9_look_45 rfl (hK_252 hS) sb rfl (by omega) h252b ?_
      refine r_aload4 (pc2 := 48) dX9_look_46 rfl ?_
      obtain ⟨M1, h1⟩ : ∃ M1, M1 = pI (pI (pI M 264 1 1) 264 2 ((sa : Nat) : Int)) 264 3 ((sb : Nat) : Int) := ⟨_, rfl⟩
      rw [← h1]
      have hS1 : sOk M1.1 := by rw [h1]; exact hS
      have n1 : ∀ a, a ≠ 264 → M1.2.1 a = M.2.1 a := fun a ha => by rw [h1, pI_ne ha, pI_ne ha, pI_ne ha]
      have j1 : M1.2.2 = M.2.2 := by rw [h1]; rfl
      have hX1 : CF M1 b (B (1 + sa)) ix := hX.of (fun a a1 a2 => ⟨n1 a (by omega), by rw [j1]⟩)
      have hY1 : CF M1 c (B (1 + sb)) jx := hY.of (fun a a1 a2 => ⟨n1 a (by omega), by rw [j1]⟩)
      have hSr1 : SNr M1 := by unfold SNr; rw [n1 261 (by decide), n1 262 (by decide)]; exact hSr
      refine r_cv3 (pc2 := 51) dX9_look_48 rfl vX9_26 (hK_264 hS1) (Nat.le_of_ble_eq_true rfl) (c_X9_search (d := d) (v := M1.2.2 b 11) (w := M1.2.2 c 11) hS1 hb_b hb_c (by omega) hX1.1 hY1.1 hoa.1 hob.1 rfl rfl hX1.2.1 hY1.2.1 hoa.2 hob.2 hSr1) ?_
      rintro _ M2 ⟨rfl, M3, f3, r3, f2, e2⟩
      have hS2 := f2.ok (f3.1.ok hS1)
      show Go (Ct (d + 4)) _ yX9_look cX9_look none 0 0 51 [some (.ref 264), some (.ref 252), some (.int (iI ((sa : Nat) : Int))), some (.int (iI ((sb : Nat) : Int))), some (.ref 256)] [.int (iI (tlF (B (1 + sa)).1 (B (1 + sb)).1 (B (1 + sa)).2 (B (1 + sb)).2).1), .ref 264] M2
      refine r_putI (z := (tlF (B (1 + sa)).1 (B (1 + sb)).1 (B (1 + sa)).2 (B (1 + sb)).2).1) (pc2 := 54) dX9_look_51 rfl fX9_30 (w9_4 _) (hK_264 hS2) (by decide) ?_
      refine r_ret dX9_look_54 rfl ?_
      have m1 : ∀ k, M2.2.1 264 k = M1.2.1 264 k := fun k => by rw [f2.i (by decide), f3.1.i (by rw [eb, ec]; simp only [List.mem_append, List.mem_cons, List.not_mem_nil, or_false]; omega)]
      refine ⟨rfl, ⟨?_, ?_, ?_, pI_at, fun j hj => ?_⟩, ⟨?_, fun x hx => ?_⟩, ?_⟩
      · rw [pI_nk (by decide), m1, h1, pI_nk (by decide), pI_nk (by decide), pI_at]
      · rw [pI_nk (by decide), m1, h1, pI_nk (by decide), pI_at]
      · rw [pI_nk (by decide), m1, h1, pI_at]
      · rw [pI_ne (by decide)]; exact e2 j hj
      · rw [← eb, ← ec]
        refine fr.I (fr.tr (M1 := M1) ?_ (fr.tr (M1 := M3) (f3.1.mono ?_) (f2.mono ?_))) (by simp)
        · rw [h1]; exact ((fr.rf.I (by simp)).I (by simp)).I (by simp)
        · intro a ha; simp only [List.mem_append, List.mem_cons, List.not_mem_nil, or_false] at ha ⊢; omega
        · intro a ha; simp only [List.mem_cons, List.not_mem_nil, or_false] at ha ⊢; omega
      · have q := f3.2 x (by rw [eb, ec]; simp only [List.mem_cons, List.not_mem_nil, or_false]; omega)
        have q2 := f2.2 x (by simp only [List.mem_cons, List.not_mem_nil, or_false]; omega)
        refine ⟨?_, fun k hk9 => ?_⟩
        · rw [pI_ne (by omega), q2.1, q.1]; exact n1 x (by omega)
        · show M2.2.2 x k = _; rw [q2.2, q.2 k hk9, j1]
      · unfold SNr; rw [pI_ne (by decide), pI_ne (by decide), f2.i (by decide), f2.i (by decide)]; exact r3
    · refine r_aload0 (pc2 := 16) dX9_look_15 rfl ?_
      refine r_getI (z := k3) (pc2 := 19) dX9_look_16 rfl (Or.inl fX9_23) (hK_264 hS) ek3 ?_
      refine r_iload3 (pc2 := 20) dX9_look_19 rfl ?_
      refine r_iceq (tgt := 54) (pc2 := 23) dX9_look_20 rfl (by decide) ⟨by omega, by omega⟩ ⟨by omega, by omega⟩ (fun b_20 => ?_) (fun b_20 => ?_)
      · refine r_ret dX9_look_54 rfl ?_
        refine ⟨rfl, ?_, ⟨fr.rf, fun x _ => ⟨rfl, fun _ _ => rfl⟩⟩, hSr⟩
        rcases hT with e | ⟨ta, tb, ta4, tb4, t1, t2, t3, t4⟩
        · omega
        · obtain rfl : ta = sa := by omega
          obtain rfl : tb = sb := by omega
          exact ⟨t1, t2, t3, t4⟩
      · refine r_aload0 (pc2 := 24) dX9_look_23 rfl ?_
        refine r_iconst (pc2 := 25) dX9_look_24 rfl ?_
        refine r_putZ (z := 1) (pc2 := 28) dX9_look_25 rfl fX9_15 (w9_1 _) (hK_264 hS) (by decide) (by omega) ?_
        refine r_aload0 (pc2 := 29) dX9_look_28 rfl ?_
        refine r_iload2 (pc2 := 30) dX9_look_29 rfl ?_
        refine r_putI (z := ((sa : Nat) : Int)) (pc2 := 33) dX9_look_30 rfl fX9_19 (w9_2 _) (hK_264 hS) (by decide) ?_
        refine r_aload0 (pc2 := 34) dX9_look_33 rfl ?_
        refine r_iload3 (pc2 := 35) dX9_look_34 rfl ?_
        refine r_putI (z := ((sb : Nat) : Int)) (pc2 := 38) dX9_look_35 rfl fX9_23 (w9_3 _) (hK_264 hS) (by decide) ?_
        refine r_aload0 (pc2 := 39) dX9_look_38 rfl ?_
        refine r_aload0 (pc2 := 40) dX9_look_39 rfl ?_
        refine r_aload1 (pc2 := 41) dX9_look_40 rfl ?_
        refine r_iload2 (pc2 := 42) dX9_look_41 rfl ?_
        refine r_aald (pc2 := 43) dX9_look_42 rfl (hK_252 hS) sa rfl (by omega) h252a ?_
        refine r_aload1 (pc2 := 44) dX9_look_43 rfl ?_
        refine r_iload3 (pc2 := 45) dX9_look_44 rfl ?_
        refine r_aald (pc2 := 46) dX9_look_45 rfl (hK_252 hS) sb rfl (by omega) h252b ?_
        refine r_aload4 (pc2 := 48) dX9_look_46 rfl ?_
        obtain ⟨M1, h1⟩ : ∃ M1, M1 = pI (pI (pI M 264 1 1) 264 2 ((sa : Nat) : Int)) 264 3 ((sb : Nat) : Int) := ⟨_, rfl⟩
        rw [← h1]
        have hS1 : sOk M1.1 := by rw [h1]; exact hS
        have n1 : ∀ a, a ≠ 264 → M1.2.1 a = M.2.1 a := fun a ha => by rw [h1, pI_ne ha, pI_ne ha, pI_ne ha]
        have j1 : M1.2.2 = M.2.2 := by rw [h1]; rfl
        have hX1 : CF M1 b (B (1 + sa)) ix := hX.of (fun a a1 a2 => ⟨n1 a (by omega), by rw [j1]⟩)
        have hY1 : CF M1 c (B (1 + sb)) jx := hY.of (fun a a1 a2 => ⟨n1 a (by omega), by rw [j1]⟩)
        have hSr1 : SNr M1 := by unfold SNr; rw [n1 261 (by decide), n1 262 (by decide)]; exact hSr
        refine r_cv3 (pc2 := 51) dX9_look_48 rfl vX9_26 (hK_264 hS1) (Nat.le_of_ble_eq_true rfl) (c_X9_search (d := d) (v := M1.2.2 b 11) (w := M1.2.2 c 11) hS1 hb_b hb_c (by omega) hX1.1 hY1.1 hoa.1 hob.1 rfl rfl hX1.2.1 hY1.2.1 hoa.2 hob.2 hSr1) ?_
        rintro _ M2 ⟨rfl, M3, f3, r3, f2, e2⟩
        have hS2 := f2.ok (f3.1.ok hS1)
        show Go (Ct (d + 4)) _ yX9_look cX9_look none 0 0 51 [some (.ref 264), some (.ref 252), some (.int (iI ((sa : Nat) : Int))), some (.int (iI ((sb : Nat) : Int))), some (.ref 256)] [.int (iI (tlF (B (1 + sa)).1 (B (1 + sb)).1 (B (1 + sa)).2 (B (1 + sb)).2).1), .ref 264] M2
        refine r_putI (z := (tlF (B (1 + sa)).1 (B (1 + sb)).1 (B (1 + sa)).2 (B (1 + sb)).2).1) (pc2 := 54) dX9_look_51 rfl fX9_30 (w9_4 _) (hK_264 hS2) (by decide) ?_
        refine r_ret dX9_look_54 rfl ?_
        have m1 : ∀ k, M2.2.1 264 k = M1.2.1 264 k := fun k => by rw [f2.i (by decide), f3.1.i (by rw [eb, ec]; simp only [List.mem_append, List.mem_cons, List.not_mem_nil, or_false]; omega)]
        refine ⟨rfl, ⟨?_, ?_, ?_, pI_at, fun j hj => ?_⟩, ⟨?_, fun x hx => ?_⟩, ?_⟩
        · rw [pI_nk (by decide), m1, h1, pI_nk (by decide), pI_nk (by decide), pI_at]
        · rw [pI_nk (by decide), m1, h1, pI_nk (by decide), pI_at]
        · rw [pI_nk (by decide), m1, h1, pI_at]
        · rw [pI_ne (by decide)]; exact e2 j hj
        · rw [← eb, ← ec]
          refine fr.I (fr.tr (M1 := M1) ?_ (fr.tr (M1 := M3) (f3.1.mono ?_) (f2.mono ?_))) (by simp)
          · rw [h1]; exact ((fr.rf.I (by simp)).I (by simp)).I (by simp)
          · intro a ha; simp only [List.mem_append, List.mem_cons, List.not_mem_nil, or_false] at ha ⊢; omega
          · intro a ha; simp only [List.mem_cons, List.not_mem_nil, or_false] at ha ⊢; omega
        · have q := f3.2 x (by rw [eb, ec]; simp only [List.mem_cons, List.not_mem_nil, or_false]; omega)
          have q2 := f2.2 x (by simp only [List.mem_cons, List.not_mem_nil, or_false]; omega)
          refine ⟨?_, fun k hk9 => ?_⟩
          · rw [pI_ne (by omega), q2.1, q.1]; exact n1 x (by omega)
          · show M2.2.2 x k = _; rw [q2.2, q.2 k hk9, j1]
        · unfold SNr; rw [pI_ne (by decide), pI_ne (by decide), f2.i (by decide), f2.i (by decide)]; exact r3
