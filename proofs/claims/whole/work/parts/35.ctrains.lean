/-! the class's trains; the queue is cell 39 -/
def tR (M : pM) (b : Nat) (s : tS) : Prop := (∀ p, p < 156 → M.2.1 (b + 4) p = s.1 p) ∧ ∀ i, i < s.2.2 → M.2.1 39 i = ((s.2.1 i : Nat) : Int)
theorem isB_n39 {b : Nat} (h : isB b) {k : Nat} (hk : k < 10) : b + k ≠ 39 := by
  revert h; unfold isB; simp only [List.mem_cons, List.not_mem_nil, or_false]; omega
theorem nf_b {b k : Nat} (h : isB b) (hk : k < 10 ∧ k ≠ 4) : b + k ∉ [b + 4, 39] := by
  have := isB_n39 h hk.1
  simp only [List.mem_cons, List.not_mem_nil, or_false]
  omega
theorem nf_c {b k : Nat} (h : isB b) (hk : k < 10 ∧ k ≠ 4 ∧ k ≠ 5) : b + k ∉ [b + 4, 39, b + 5] := by
  have := isB_n39 h hk.1
  simp only [List.mem_cons, List.not_mem_nil, or_false]
  omega
theorem rch_iff {pc : Nat → Int} {f pl : Nat} {a b : Prop} [Decidable a] [Decidable b] {s : tS} (h : a ↔ b) : rch pc f a pl s = rch pc f b pl s := by
  unfold rch
  by_cases ha : a
  · by_cases hc : s.1 pl = -1 ∧ (pc pl = 4 ∨ pc pl = 8)
    · rw [if_pos ⟨ha, hc⟩, if_pos ⟨h.mp ha, hc⟩]
    · rw [if_neg (fun q => hc q.2), if_neg (fun q => hc q.2)]
  · rw [if_neg (fun q => ha q.1), if_neg (fun q => ha (h.mpr q.1))]
theorem rch_no {pc : Nat → Int} {f pl : Nat} {a : Prop} [Decidable a] {s : tS} (h : ¬ a) : rch pc f a pl s = s := by
  unfold rch; rw [if_neg (fun q => h q.1)]
set_option maxHeartbeats 4000000 in
theorem c_X0_reach {d : Nat} {M : pM} {b f e : Nat} {pl : Int} {pc tr : Nat → Int} {q : Nat → Nat} (hS : sOk M.1) (hb_b : isB b) (hf : f < 156) (hpl : inR pl) (hP : ∀ p, p < 156 → M.2.1 (b + 1) p = pc p ∧ 0 ≤ pc p ∧ pc p ≤ 9) (hr : ∀ p, p < 156 → -1 ≤ tr p ∧ tr p < 156) (hc : e + cu tr 156 ≤ 156) (hR : tR M b (tr, q, e)) : Ct (d + 1) 0 0 yX0_reach [.ref (b), .int (iI pl), .int (iI ((f : Nat) : Int)), .ref 39, .int (iI ((e : Nat) : Int))] M (fun v M2 => v = some (.int (iI (((rch pc f (0 ≤ pl ∧ pl < 156) pl.toNat (tr, q, e)).2.2 : Nat) : Int))) ∧ fr [b + 4, 39] M M2 ∧ tR M2 b (rch pc f (0 ≤ pl ∧ pl < 156) pl.toNat (tr, q, e))) := by
  refine ct_in (d := d) kX0_reach rfl (by decide) (Nat.le_of_ble_eq_true rfl) (by decide) ?_
  show Go (Ct d) _ yX0_reach cX0_reach (some .int) 0 0 0 [some (.ref (b)), some (.int (iI pl)), some (.int (iI ((f : Nat) : Int))), some (.ref 39), some (.int (iI ((e : Nat) : Int)))] [] M
  obtain ⟨p1, p2⟩ := hpl
  have hcp : 0 ≤ pl ∧ pl < 156 → tr pl.toNat = -1 → e < 156 := fun h1 h2 => by have := cu_pos (tr := tr) (n := 156) (p := pl.toNat) (by omega) h2; omega
  have hrr : 0 ≤ pl ∧ pl < 156 → -1 ≤ tr pl.toNat ∧ tr pl.toNat < 156 := fun h => hr _ (by omega)
  have hpp : 0 ≤ pl ∧ pl < 156 → 0 ≤ pc pl.toNat ∧ pc pl.toNat ≤ 9 := fun h => (hP _ (by omega)).2
  refine r_iload1 (pc2 := 1) dX0_reach_0 rfl ?_
  refine r_iflt (tgt := 29) (pc2 := 4) dX0_reach_1 rfl (by decide) ⟨by omega, by omega⟩ (fun b_1 => ?_) (fun b_1 => ?_)
  · refine r_iload4 (pc2 := 31) dX0_reach_29 rfl ?_
    refine r_ireti dX0_reach_31 rfl ?_
    have e0 : rch pc f (0 ≤ pl ∧ pl < 156) pl.toNat (tr, q, e) = (tr, q, e) := if_neg (by simp only; omega)
    rw [e0]
    exact ⟨rfl, fr.rf, hR⟩
  · refine r_iload1 (pc2 := 5) dX0_reach_4 rfl ?_
    refine r_sipush (pc2 := 8) dX0_reach_5 rfl (by decide) (by decide) ?_
    refine r_icge (tgt := 29) (pc2 := 11) dX0_reach_8 rfl (by decide) ⟨by omega, by omega⟩ ⟨by omega, by omega⟩ (fun b_8 => ?_) (fun b_8 => ?_)
    · refine r_iload4 (pc2 := 31) dX0_reach_29 rfl ?_
      refine r_ireti dX0_reach_31 rfl ?_
      have e0 : rch pc f (0 ≤ pl ∧ pl < 156) pl.toNat (tr, q, e) = (tr, q, e) := if_neg (by simp only; omega)
      rw [e0]
      exact ⟨rfl, fr.rf, hR⟩
    · refine r_iload4 (pc2 := 13) dX0_reach_11 rfl ?_
      refine r_sipush (pc2 := 16) dX0_reach_13 rfl (by decide) (by decide) ?_
      refine r_icge (tgt := 29) (pc2 := 19) dX0_reach_16 rfl (by decide) ⟨by omega, by omega⟩ ⟨by omega, by omega⟩ (fun b_16 => ?_) (fun b_16 => ?_)
      · refine r_iload4 (pc2 := 31) dX0_reach_29 rfl ?_
        refine r_ireti dX0_reach_31 rfl ?_
        have e0 : rch pc f (0 ≤ pl ∧ pl < 156) pl.toNat (tr, q, e) = (tr, q, e) := if_neg (by simp only; omega)
        rw [e0]
        exact ⟨rfl, fr.rf, hR⟩
      · refine r_aload0 (pc2 := 20) dX0_reach_19 rfl ?_
        refine r_getR (pc2 := 23) dX0_reach_20 rfl fX0_21 (hKb hS hb_b) (hRb3 hS hb_b) ?_
        refine r_iload1 (pc2 := 24) dX0_reach_23 rfl ?_
        refine r_iald (z := (tr pl.toNat)) (pc2 := 25) dX0_reach_24 rfl (hKb4 hS hb_b) (pl).toNat (by omega) (by omega) (hR.1 _ (by omega)) ?_
        refine r_iconst (pc2 := 26) dX0_reach_25 rfl ?_
        refine r_iceq (tgt := 32) (pc2 := 29) dX0_reach_26 rfl (by decide) ⟨by omega, by omega⟩ ⟨by omega, by omega⟩ (fun b_26 => ?_) (fun b_26 => ?_)
        · refine r_aload0 (pc2 := 33) dX0_reach_32 rfl ?_
          refine r_getR (pc2 := 36) dX0_reach_33 rfl fX0_9 (hKb hS hb_b) (hRb0 hS hb_b) ?_
          refine r_iload1 (pc2 := 37) dX0_reach_36 rfl ?_
          refine r_iald (z := (pc pl.toNat)) (pc2 := 38) dX0_reach_37 rfl (hKb1 hS hb_b) (pl).toNat (by omega) (by omega) (hP _ (by omega)).1 ?_
          refine r_iconst (pc2 := 39) dX0_reach_38 rfl ?_
          refine r_iceq (tgt := 56) (pc2 := 42) dX0_reach_39 rfl (by decide) ⟨by omega, by omega⟩ ⟨by omega, by omega⟩ (fun b_39 => ?_) (fun b_39 => ?_)
          · refine r_aload0 (pc2 := 57) dX0_reach_56 rfl ?_
            refine r_getR (pc2 := 60) dX0_reach_57 rfl fX0_21 (hKb hS hb_b) (hRb3 hS hb_b) ?_
            refine r_iload1 (pc2 := 61) dX0_reach_60 rfl ?_
            refine r_iload2 (pc2 := 62) dX0_reach_61 rfl ?_
            refine r_iast (z := ((f : Nat) : Int)) (pc2 := 63) dX0_reach_62 rfl (hKb4 hS hb_b) (Nat.le_trans (isB_ge hb_b) (Nat.le_add_right _ _)) (pl).toNat (by omega) (by omega) ?_
            refine r_aload3 (pc2 := 64) dX0_reach_63 rfl ?_
            refine r_iload4 (pc2 := 66) dX0_reach_64 rfl ?_
            refine r_iload1 (pc2 := 67) dX0_reach_66 rfl ?_
            refine r_iast (z := pl) (pc2 := 68) dX0_reach_67 rfl (hK_39 hS) (by decide) e rfl (by omega) ?_
            refine r_iload4 (pc2 := 70) dX0_reach_68 rfl ?_
            refine r_iconst (pc2 := 71) dX0_reach_70 rfl ?_
            refine r_iadd (c := ((e + 1 : Nat) : Int)) (pc2 := 72) dX0_reach_71 rfl (by omega) ?_
            refine r_ireti dX0_reach_72 rfl ?_
            have e0 : rch pc f (0 ≤ pl ∧ pl < 156) pl.toNat (tr, q, e) = (va_up tr pl.toNat (f : Int), va_up q e pl.toNat, e + 1) := if_pos ⟨⟨by omega, by omega⟩, by simp only; omega, by omega⟩
            rw [e0]
            refine ⟨rfl, (fr.rf.I (List.mem_cons_self)).I (List.mem_cons_of_mem _ List.mem_cons_self), fun p hp => ?_, fun i hi => ?_⟩
            · rw [pI_ne (isB_n39 hb_b (by decide)), pI_eq]; simp only [va_up]; split; rfl; exact hR.1 p hp
            · rw [pI_eq]; simp only [va_up] at hi ⊢; split; omega; rw [pI_ne (Ne.symm (isB_n39 hb_b (by decide)))]; exact hR.2 i (show i < e by omega)
          · refine r_aload0 (pc2 := 43) dX0_reach_42 rfl ?_
            refine r_getR (pc2 := 46) dX0_reach_43 rfl fX0_9 (hKb hS hb_b) (hRb0 hS hb_b) ?_
            refine r_iload1 (pc2 := 47) dX0_reach_46 rfl ?_
            refine r_iald (z := (pc pl.toNat)) (pc2 := 48) dX0_reach_47 rfl (hKb1 hS hb_b) (pl).toNat (by omega) (by omega) (hP _ (by omega)).1 ?_
            refine r_bipush (pc2 := 50) dX0_reach_48 rfl (by decide) (by decide) ?_
            refine r_iceq (tgt := 56) (pc2 := 53) dX0_reach_50 rfl (by decide) ⟨by omega, by omega⟩ ⟨by omega, by omega⟩ (fun b_50 => ?_) (fun b_50 => ?_)
            · refine r_aload0 (pc2 := 57) dX0_reach_56 rfl ?_
              refine r_getR (pc2 := 60) dX0_reach_57 rfl fX0_21 (hKb hS hb_b) (hRb3 hS hb_b) ?_
              refine r_iload1 (pc2 := 61) dX0_reach_60 rfl ?_
              refine r_iload2 (pc2 := 62) dX0_reach_61 rfl ?_
              refine r_iast (z := ((f : Nat) : Int)) (pc2 := 63) dX0_reach_62 rfl (hKb4 hS hb_b) (Nat.le_trans (isB_ge hb_b) (Nat.le_add_right _ _)) (pl).toNat (by omega) (by omega) ?_
              refine r_aload3 (pc2 := 64) dX0_reach_63 rfl ?_
              refine r_iload4 (pc2 := 66) dX0_reach_64 rfl ?_
              refine r_iload1 (pc2 := 67) dX0_reach_66 rfl ?_
              refine r_iast (z := pl) (pc2 := 68) dX0_reach_67 rfl (hK_39 hS) (by decide) e rfl (by omega) ?_
              refine r_iload4 (pc2 := 70) dX0_reach_68 rfl ?_
              refine r_iconst (pc2 := 71) dX0_reach_70 rfl ?_
              refine r_iadd (c := ((e + 1 : Nat) : Int)) (pc2 := 72) dX0_reach_71 rfl (by omega) ?_
              refine r_ireti dX0_reach_72 rfl ?_
              have e0 : rch pc f (0 ≤ pl ∧ pl < 156) pl.toNat (tr, q, e) = (va_up tr pl.toNat (f : Int), va_up q e pl.toNat, e + 1) := if_pos ⟨⟨by omega, by omega⟩, by simp only; omega, by omega⟩
              rw [e0]
              refine ⟨rfl, (fr.rf.I (List.mem_cons_self)).I (List.mem_cons_of_mem _ List.mem_cons_self), fun p hp => ?_, fun i hi => ?_⟩
              · rw [pI_ne (isB_n39 hb_b (by decide)), pI_eq]; simp only [va_up]; split; rfl; exact hR.1 p hp
              · rw [pI_eq]; simp only [va_up] at hi ⊢; split; omega; rw [pI_ne (Ne.symm (isB_n39 hb_b (by decide)))]; exact hR.2 i (show i < e by omega)
            · refine r_iload4 (pc2 := 55) dX0_reach_53 rfl ?_
              refine r_ireti dX0_reach_55 rfl ?_
              have e0 : rch pc f (0 ≤ pl ∧ pl < 156) pl.toNat (tr, q, e) = (tr, q, e) := if_neg (by simp only; omega)
              rw [e0]
              exact ⟨rfl, fr.rf, hR⟩
        · refine r_iload4 (pc2 := 31) dX0_reach_29 rfl ?_
          refine r_ireti dX0_reach_31 rfl ?_
          have e0 : rch pc f (0 ≤ pl ∧ pl < 156) pl.toNat (tr, q, e) = (tr, q, e) := if_neg (by simp only; omega)
          rw [e0]
          exact ⟨rfl, fr.rf, hR⟩
theorem rch_eq {pc : Nat → Int} {f pl pl2 : Nat} {a b : Prop} [Decidable a] [Decidable b] {s : tS} (h : a ↔ b) (hp : a → pl = pl2) : rch pc f a pl s = rch pc f b pl2 s := by
  by_cases ha : a
  · rw [hp ha]; exact rch_iff h
  · rw [rch_no ha, rch_no (fun q => ha (h.mpr q))]
theorem c_reach {d : Nat} {M : pM} {b f pl2 : Nat} {pl : Int} {pc : Nat → Int} {s : tS} {ok : Prop} [Decidable ok] (hS : sOk M.1) (hb_b : isB b) (hf : f < 156) (hpl : inR pl) (hP : ∀ p, p < 156 → M.2.1 (b + 1) p = pc p ∧ 0 ≤ pc p ∧ pc p ≤ 9) (hr : ∀ p, p < 156 → -1 ≤ s.1 p ∧ s.1 p < 156) (hc : s.2.2 + cu s.1 156 ≤ 156) (hR : tR M b s) (h1 : (0 ≤ pl ∧ pl < 156) ↔ ok) (h2 : 0 ≤ pl ∧ pl < 156 → pl.toNat = pl2) :
    Ct (d + 1) 0 0 yX0_reach [.ref b, .int (iI pl), .int (iI ((f : Nat) : Int)), .ref 39, .int (iI ((s.2.2 : Nat) : Int))] M (fun v M2 => v = some (.int (iI (((rch pc f ok pl2 s).2.2 : Nat) : Int))) ∧ fr [b + 4, 39] M M2 ∧ tR M2 b (rch pc f ok pl2 s)) := by
  refine Ct_mono (fun v M2 h => ?_) (c_X0_reach (pc := pc) (tr := s.1) (q := s.2.1) (e := s.2.2) hS hb_b hf hpl hP hr hc hR)
  rw [rch_eq (s := s) (f := f) (pc := pc) h1 h2] at h
  exact h
theorem tI_r {pc tr0 : Nat → Int} {f : Nat} {s : tS} (h : tI pc tr0 f s) (hf : f < 156) (hr : ∀ p, p < 156 → -1 ≤ tr0 p ∧ tr0 p < 156) : ∀ p, p < 156 → -1 ≤ s.1 p ∧ s.1 p < 156 := by
  intro p hp
  by_cases e : s.1 p = (f : Int)
  · rw [e]; omega
  · rw [h.2.2.2.1 p e]; exact hr p hp
/-- the bits of the gates among the first i of the queue -/
def flB (pc : Nat → Int) (ix q : Nat → Nat) (i : Nat) (fl : Int64) : Prop := ∀ j, j < 64 → (bl fl j = true ↔ ∃ k, k < i ∧ pc (q k) = 4 ∧ j = 4 * ix (q k))
theorem flB_0 {pc : Nat → Int} {ix q : Nat → Nat} : flB pc ix q 0 0 := fun j hj => by rw [bl_0]; constructor; (intro h; cases h); (rintro ⟨k, hk, -⟩; omega)
theorem bl_1 : ∀ j, j < 64 → bl (1 : Int64) j = decide (j = 0) := by unfold bl; decide +kernel
theorem flB_yes {pc : Nat → Int} {ix q : Nat → Nat} {i : Nat} {fl : Int64} (h : flB pc ix q i fl) (hg : pc (q i) = 4) (hx : ix (q i) < 16) : flB pc ix q (i + 1) (fl ||| (1 <<< (Int32.toInt64 (iI ((4 * ix (q i) : Nat) : Int)) &&& 63))) := by
  intro j hj
  rw [bl_or, bl_shl _ (by omega) hj, Bool.or_eq_true, h j hj]
  constructor
  · rintro (⟨k, a, b, c⟩ | e)
    · exact ⟨k, by omega, b, c⟩
    · simp only [Bool.and_eq_true, decide_eq_true_eq] at e
      rw [bl_1 _ (by omega), decide_eq_true_eq] at e
      exact ⟨i, by omega, hg, by omega⟩
  · rintro ⟨k, a, b, c⟩
    by_cases e : k = i
    · subst e
      right
      simp only [Bool.and_eq_true, decide_eq_true_eq]
      rw [bl_1 _ (by omega), decide_eq_true_eq]
      omega
    · exact Or.inl ⟨k, by omega, b, c⟩
theorem flB_no {pc : Nat → Int} {ix q : Nat → Nat} {i : Nat} {fl : Int64} (h : flB pc ix q i fl) (hg : ¬ pc (q i) = 4) : flB pc ix q (i + 1) (fl ||| 0) := by
  intro j hj
  rw [bl_or, bl_0, Bool.or_false, h j hj]
  constructor
  · rintro ⟨k, a, b, c⟩; exact ⟨k, by omega, b, c⟩
  · rintro ⟨k, a, b, c⟩
    by_cases e : k = i
    · subst e; exact absurd b hg
    · exact ⟨k, by omega, b, c⟩
theorem flB_q {pc : Nat → Int} {ix q q2 : Nat → Nat} {i : Nat} {fl : Int64} (h : flB pc ix q i fl) (e : ∀ k, k < i → q2 k = q k) : flB pc ix q2 i fl := by
  intro j hj
  rw [h j hj]
  constructor
  · rintro ⟨k, a, b, c⟩; exact ⟨k, a, by rw [e k a]; exact b, by rw [e k a]; exact c⟩
  · rintro ⟨k, a, b, c⟩; exact ⟨k, a, by rw [← e k a]; exact b, by rw [← e k a]; exact c⟩
set_option maxHeartbeats 8000000 in
theorem lp1_X0_linkTrain {d : Nat} {Q : pQ} {b f : Nat} {pc tr0 : Nat → Int} {ix : Nat → Nat} (M0 : pM) (S : tS) (hS0 : sOk M0.1) (hb_b : isB b) (hf : f < 156) (hr0 : ∀ p, p < 156 → -1 ≤ tr0 p ∧ tr0 p < 156) (hP0 : ∀ p, p < 156 → M0.2.1 (b + 1) p = pc p ∧ 0 ≤ pc p ∧ pc p ≤ 9) (hX0 : ∀ p, p < 156 → M0.2.1 (b + 3) p = ((4 * ix p : Nat) : Int) ∧ ix p < 16)
    (hQ : ∀ (M2 : pM) (fl2 : Int64) (i2 : Nat) (x7 x8 : Option Value), fr [b + 4, 39] M0 M2 → tI pc tr0 f S → tR M2 b S → flB pc ix S.2.1 S.2.2 fl2 → Go (Ct (d + 1)) Q yX0_linkTrain cX0_linkTrain none 0 0 147 [some (.ref b), some (.int (iI ((f : Nat) : Int))), some (.ref 39), some (.int (iI ((S.2.2 : Nat) : Int))), some (.long fl2), none, some (.int (iI ((i2 : Nat) : Int))), x7, x8] [] M2) :
    ∀ (n i : Nat) (s : tS) (fl : Int64) (M : pM) (x7 x8 : Option Value), i + n = 157 → i ≤ s.2.2 → tI pc tr0 f s → tR M b s → fr [b + 4, 39] M0 M → flB pc ix s.2.1 i fl → tlp pc f n i s = S → Go (Ct (d + 1)) Q yX0_linkTrain cX0_linkTrain none 0 0 15 [some (.ref b), some (.int (iI ((f : Nat) : Int))), some (.ref 39), some (.int (iI ((s.2.2 : Nat) : Int))), some (.long fl), none, some (.int (iI ((i : Nat) : Int))), x7, x8] [] M := by
  intro n
  induction n with
  | zero =>
    intro i s fl M x7 x8 hn hi hI hR hfr hfl hT
    exact absurd hI.1 (by omega)
  | succ n ih =>
    intro i s fl M x7 x8 hn hi hI hR hfr hfl hT
    have hS := hfr.ok hS0
    have hcu := hI.1
    have e1 : M.2.1 (b + 1) = M0.2.1 (b + 1) := hfr.i (nf_b hb_b (by decide))
    have e3 : M.2.1 (b + 3) = M0.2.1 (b + 3) := hfr.i (nf_b hb_b (by decide))
    have hP : ∀ p, p < 156 → M.2.1 (b + 1) p = pc p ∧ 0 ≤ pc p ∧ pc p ≤ 9 := fun p hp => by rw [e1]; exact hP0 p hp
    unfold tlp at hT
    have hq0 : i < s.2.2 → s.2.1 i < 156 := fun h => (hI.2.1 i h).1
    have hq1 : i < s.2.2 → 0 ≤ pc (s.2.1 i) ∧ pc (s.2.1 i) ≤ 9 := fun h => (hP _ (hq0 h)).2
    refine r_iload6 (pc2 := 17) dX0_linkTrain_15 rfl ?_
    refine r_iload3 (pc2 := 18) dX0_linkTrain_17 rfl ?_
    refine r_icge (tgt := 147) (pc2 := 21) dX0_linkTrain_18 rfl (by decide) ⟨by omega, by omega⟩ ⟨by omega, by omega⟩ (fun b_18 => ?_) (fun b_18 => ?_)
    · rw [if_neg (by omega)] at hT
      subst hT
      exact hQ M fl i x7 x8 hfr hI hR (by rw [show s.2.2 = i by omega]; exact hfl)
    · refine r_iload6 (pc2 := 23) dX0_linkTrain_21 rfl ?_
      refine r_sipush (pc2 := 26) dX0_linkTrain_23 rfl (by decide) (by decide) ?_
      refine r_icge (tgt := 147) (pc2 := 29) dX0_linkTrain_26 rfl (by decide) ⟨by omega, by omega⟩ ⟨by omega, by omega⟩ (fun b_26 => ?_) (fun b_26 => ?_)
      · exact absurd b_26 (by omega)
      · refine r_aload2 (pc2 := 30) dX0_linkTrain_29 rfl ?_
        refine r_iload6 (pc2 := 32) dX0_linkTrain_30 rfl ?_
        refine r_iald (z := ((s.2.1 i : Nat) : Int)) (pc2 := 33) dX0_linkTrain_32 rfl (hK_39 hS) i rfl (by omega) (hR.2 i (by omega)) ?_
        refine r_istore7 (pc2 := 35) dX0_linkTrain_33 rfl rfl ?_
        refine r_iload7 (pc2 := 37) dX0_linkTrain_35 rfl ?_
        refine r_bipush (pc2 := 39) dX0_linkTrain_37 rfl (by decide) (by decide) ?_
        refine r_irem (pc2 := 40) dX0_linkTrain_39 rfl (by omega) (by omega) (by omega) (by omega) ?_
        refine r_istore8 (pc2 := 42) dX0_linkTrain_40 rfl rfl ?_
        refine r_iload8 (pc2 := 44) dX0_linkTrain_42 rfl ?_
        refine r_ifle (tgt := 61) (pc2 := 47) dX0_linkTrain_44 rfl (by decide) ⟨by omega, by omega⟩ (fun b_44 => ?_) (fun b_44 => ?_)
        · refine r_iload3 (pc2 := 62) dX0_linkTrain_61 rfl ?_
          refine r_istore3 (pc2 := 63) dX0_linkTrain_62 rfl rfl ?_
          refine r_iload8 (pc2 := 65) dX0_linkTrain_63 rfl ?_
          refine r_bipush (pc2 := 67) dX0_linkTrain_65 rfl (by decide) (by decide) ?_
          refine r_icge (tgt := 84) (pc2 := 70) dX0_linkTrain_67 rfl (by decide) ⟨by omega, by omega⟩ ⟨by omega, by omega⟩ (fun b_67 => ?_) (fun b_67 => ?_)
          · refine r_iload3 (pc2 := 85) dX0_linkTrain_84 rfl ?_
            refine r_istore3 (pc2 := 86) dX0_linkTrain_85 rfl rfl ?_
            refine r_aload0 (pc2 := 87) dX0_linkTrain_86 rfl ?_
            refine r_iload7 (pc2 := 89) dX0_linkTrain_87 rfl ?_
            refine r_bipush (pc2 := 91) dX0_linkTrain_89 rfl (by decide) (by decide) ?_
            refine r_isub (c := (((s.2.1 i : Nat) : Int) - 13)) (pc2 := 92) dX0_linkTrain_91 rfl rfl ?_
            refine r_iload1 (pc2 := 93) dX0_linkTrain_92 rfl ?_
            refine r_aload2 (pc2 := 94) dX0_linkTrain_93 rfl ?_
            refine r_iload3 (pc2 := 95) dX0_linkTrain_94 rfl ?_
            refine r_cv4 (pc2 := 98) dX0_linkTrain_95 rfl vX0_75 (hKb hS hb_b) (by decide) (c_reach (d := d) (pc := pc) (s := s) (ok := (13 ≤ s.2.1 i)) (pl2 := (s.2.1 i - 13)) (hfr.ok hS0) hb_b hf ⟨by omega, by omega⟩ (fun p hp => by rw [hfr.i (nf_b hb_b (by decide))]; exact hP0 p hp) (tI_r hI hf hr0) hI.1 hR (by omega) (by omega)) ?_
            rintro _ M95 ⟨rfl, hf95, hR95⟩
            have hfr95 := hfr.tr hf95
            have hI95 := (rch_I (ok := (13 ≤ s.2.1 i)) (pl := (s.2.1 i - 13)) hI (fun h => by have := hq0 (by omega); omega)).1
            show Go (Ct (d + 1)) _ yX0_linkTrain cX0_linkTrain none 0 0 98 [some (.ref (b)), some (.int (iI ((f : Nat) : Int))), some (.ref 39), some (.int (iI ((s.2.2 : Nat) : Int))), some (.long (fl)), none, some (.int (iI ((i : Nat) : Int))), some (.int (iI ((s.2.1 i : Nat) : Int))), some (.int (iI (((s.2.1 i : Nat) : Int) % 13)))] [.int (iI (((rch pc f (13 ≤ s.2.1 i) (s.2.1 i - 13) s).2.2 : Nat) : Int))] M95
            refine r_istore3 (pc2 := 99) dX0_linkTrain_98 rfl rfl ?_
            refine r_aload0 (pc2 := 100) dX0_linkTrain_99 rfl ?_
            refine r_iload7 (pc2 := 102) dX0_linkTrain_100 rfl ?_
            refine r_bipush (pc2 := 104) dX0_linkTrain_102 rfl (by decide) (by decide) ?_
            refine r_iadd (c := (((s.2.1 i : Nat) : Int) + 13)) (pc2 := 105) dX0_linkTrain_104 rfl rfl ?_
            refine r_iload1 (pc2 := 106) dX0_linkTrain_105 rfl ?_
            refine r_aload2 (pc2 := 107) dX0_linkTrain_106 rfl ?_
            refine r_iload3 (pc2 := 108) dX0_linkTrain_107 rfl ?_
            refine r_cv4 (pc2 := 111) dX0_linkTrain_108 rfl vX0_75 (hKb (hfr95.ok hS0) hb_b) (by decide) (c_reach (d := d) (pc := pc) (s := (rch pc f (13 ≤ s.2.1 i) (s.2.1 i - 13) s)) (ok := (s.2.1 i + 13 < 156)) (pl2 := (s.2.1 i + 13)) (hfr95.ok hS0) hb_b hf ⟨by omega, by omega⟩ (fun p hp => by rw [hfr95.i (nf_b hb_b (by decide))]; exact hP0 p hp) (tI_r hI95 hf hr0) hI95.1 hR95 (by omega) (by omega)) ?_
            rintro _ M108 ⟨rfl, hf108, hR108⟩
            have hfr108 := hfr95.tr hf108
            have hI108 := (rch_I (ok := (s.2.1 i + 13 < 156)) (pl := (s.2.1 i + 13)) hI95 (fun h => by have := hq0 (by omega); omega)).1
            show Go (Ct (d + 1)) _ yX0_linkTrain cX0_linkTrain none 0 0 111 [some (.ref (b)), some (.int (iI ((f : Nat) : Int))), some (.ref 39), some (.int (iI (((rch pc f (13 ≤ s.2.1 i) (s.2.1 i - 13) s).2.2 : Nat) : Int))), some (.long (fl)), none, some (.int (iI ((i : Nat) : Int))), some (.int (iI ((s.2.1 i : Nat) : Int))), some (.int (iI (((s.2.1 i : Nat) : Int) % 13)))] [.int (iI (((rch pc f (s.2.1 i + 13 < 156) (s.2.1 i + 13) (rch pc f (13 ≤ s.2.1 i) (s.2.1 i - 13) s)).2.2 : Nat) : Int))] M108
            refine r_istore3 (pc2 := 112) dX0_linkTrain_111 rfl rfl ?_
            refine r_lload4 (pc2 := 114) dX0_linkTrain_112 rfl ?_
            refine r_aload0 (pc2 := 115) dX0_linkTrain_114 rfl ?_
            refine r_getR (pc2 := 118) dX0_linkTrain_115 rfl fX0_9 (hKb (hfr108.ok hS0) hb_b) (hRb0 (hfr108.ok hS0) hb_b) ?_
            refine r_iload7 (pc2 := 120) dX0_linkTrain_118 rfl ?_
            refine r_iald (z := (pc (s.2.1 i))) (pc2 := 121) dX0_linkTrain_120 rfl (hKb1 (hfr108.ok hS0) hb_b) (s.2.1 i) rfl (by omega) (by rw [hfr108.i (nf_b hb_b (by decide))]; exact (hP0 _ (hq0 (by omega))).1) ?_
            refine r_iconst (pc2 := 122) dX0_linkTrain_121 rfl ?_
            refine r_icne (tgt := 137) (pc2 := 125) dX0_linkTrain_122 rfl (by decide) ⟨by omega, by omega⟩ ⟨by omega, by omega⟩ (fun b_122 => ?_) (fun b_122 => ?_)
            · refine r_lconst (pc2 := 138) dX0_linkTrain_137 rfl ?_
              refine r_lor (pc2 := 139) dX0_linkTrain_138 rfl ?_
              refine r_lstore4 (pc2 := 141) dX0_linkTrain_139 rfl rfl ?_
              refine r_iinc6 (z := ((i + 1 : Nat) : Int)) (pc2 := 144) dX0_linkTrain_141 rfl (by omega) rfl ?_
              refine r_goto (tgt := 15) dX0_linkTrain_144 (by decide) ?_
              rw [if_pos (by omega)] at hT
              have en : nb4 pc f (s.2.1 i) s = (rch pc f (s.2.1 i + 13 < 156) (s.2.1 i + 13) (rch pc f (13 ≤ s.2.1 i) (s.2.1 i - 13) s)) := by unfold nb4; rw [rch_no (a := s.2.1 i % 13 < 12) (by omega)]; rw [rch_no (a := 0 < s.2.1 i % 13) (by omega)]
              have hnb := nb4_I hI (hq0 (by omega))
              rw [en] at hT hnb
              have hq9 : ∀ k, k < i + 1 → (rch pc f (s.2.1 i + 13 < 156) (s.2.1 i + 13) (rch pc f (13 ≤ s.2.1 i) (s.2.1 i - 13) s)).2.1 k = s.2.1 k := fun k hk => hnb.2.2 k (by omega)
              have hfl9 := flB_no hfl (by omega)
              exact ih (i + 1) _ _ M108 _ _ (by omega) (by have := hnb.2.1; omega) hnb.1 hR108 hfr108 (flB_q hfl9 hq9) hT
            · refine r_lconst (pc2 := 126) dX0_linkTrain_125 rfl ?_
              refine r_aload0 (pc2 := 127) dX0_linkTrain_126 rfl ?_
              refine r_getR (pc2 := 130) dX0_linkTrain_127 rfl fX0_18 (hKb (hfr108.ok hS0) hb_b) (hRb2 (hfr108.ok hS0) hb_b) ?_
              refine r_iload7 (pc2 := 132) dX0_linkTrain_130 rfl ?_
              refine r_iald (z := ((4 * ix (s.2.1 i) : Nat) : Int)) (pc2 := 133) dX0_linkTrain_132 rfl (hKb3 (hfr108.ok hS0) hb_b) (s.2.1 i) rfl (by omega) (by rw [hfr108.i (nf_b hb_b (by decide))]; exact (hX0 _ (hq0 (by omega))).1) ?_
              refine r_lshl (pc2 := 134) dX0_linkTrain_133 rfl ?_
              refine r_goto (tgt := 138) dX0_linkTrain_134 (by decide) ?_
              refine r_lor (pc2 := 139) dX0_linkTrain_138 rfl ?_
              refine r_lstore4 (pc2 := 141) dX0_linkTrain_139 rfl rfl ?_
              refine r_iinc6 (z := ((i + 1 : Nat) : Int)) (pc2 := 144) dX0_linkTrain_141 rfl (by omega) rfl ?_
              refine r_goto (tgt := 15) dX0_linkTrain_144 (by decide) ?_
              rw [if_pos (by omega)] at hT
              have en : nb4 pc f (s.2.1 i) s = (rch pc f (s.2.1 i + 13 < 156) (s.2.1 i + 13) (rch pc f (13 ≤ s.2.1 i) (s.2.1 i - 13) s)) := by unfold nb4; rw [rch_no (a := s.2.1 i % 13 < 12) (by omega)]; rw [rch_no (a := 0 < s.2.1 i % 13) (by omega)]
              have hnb := nb4_I hI (hq0 (by omega))
              rw [en] at hT hnb
              have hq9 : ∀ k, k < i + 1 → (rch pc f (s.2.1 i + 13 < 156) (s.2.1 i + 13) (rch pc f (13 ≤ s.2.1 i) (s.2.1 i - 13) s)).2.1 k = s.2.1 k := fun k hk => hnb.2.2 k (by omega)
              have hfl9 := flB_yes hfl (by omega) (hX0 (s.2.1 i) (hq0 (by omega))).2
              exact ih (i + 1) _ _ M108 _ _ (by omega) (by have := hnb.2.1; omega) hnb.1 hR108 hfr108 (flB_q hfl9 hq9) hT
          · refine r_aload0 (pc2 := 71) dX0_linkTrain_70 rfl ?_
            refine r_iload7 (pc2 := 73) dX0_linkTrain_71 rfl ?_
            refine r_iconst (pc2 := 74) dX0_linkTrain_73 rfl ?_
            refine r_iadd (c := (((s.2.1 i : Nat) : Int) + 1)) (pc2 := 75) dX0_linkTrain_74 rfl rfl ?_
            refine r_iload1 (pc2 := 76) dX0_linkTrain_75 rfl ?_
            refine r_aload2 (pc2 := 77) dX0_linkTrain_76 rfl ?_
            refine r_iload3 (pc2 := 78) dX0_linkTrain_77 rfl ?_
            refine r_cv4 (pc2 := 81) dX0_linkTrain_78 rfl vX0_75 (hKb hS hb_b) (by decide) (c_reach (d := d) (pc := pc) (s := s) (ok := (s.2.1 i % 13 < 12)) (pl2 := (s.2.1 i + 1)) (hfr.ok hS0) hb_b hf ⟨by omega, by omega⟩ (fun p hp => by rw [hfr.i (nf_b hb_b (by decide))]; exact hP0 p hp) (tI_r hI hf hr0) hI.1 hR (by omega) (by omega)) ?_
            rintro _ M78 ⟨rfl, hf78, hR78⟩
            have hfr78 := hfr.tr hf78
            have hI78 := (rch_I (ok := (s.2.1 i % 13 < 12)) (pl := (s.2.1 i + 1)) hI (fun h => by have := hq0 (by omega); omega)).1
            show Go (Ct (d + 1)) _ yX0_linkTrain cX0_linkTrain none 0 0 81 [some (.ref (b)), some (.int (iI ((f : Nat) : Int))), some (.ref 39), some (.int (iI ((s.2.2 : Nat) : Int))), some (.long (fl)), none, some (.int (iI ((i : Nat) : Int))), some (.int (iI ((s.2.1 i : Nat) : Int))), some (.int (iI (((s.2.1 i : Nat) : Int) % 13)))] [.int (iI (((rch pc f (s.2.1 i % 13 < 12) (s.2.1 i + 1) s).2.2 : Nat) : Int))] M78
            refine r_goto (tgt := 85) dX0_linkTrain_81 (by decide) ?_
            refine r_istore3 (pc2 := 86) dX0_linkTrain_85 rfl rfl ?_
            refine r_aload0 (pc2 := 87) dX0_linkTrain_86 rfl ?_
            refine r_iload7 (pc2 := 89) dX0_linkTrain_87 rfl ?_
            refine r_bipush (pc2 := 91) dX0_linkTrain_89 rfl (by decide) (by decide) ?_
            refine r_isub (c := (((s.2.1 i : Nat) : Int) - 13)) (pc2 := 92) dX0_linkTrain_91 rfl rfl ?_
            refine r_iload1 (pc2 := 93) dX0_linkTrain_92 rfl ?_
            refine r_aload2 (pc2 := 94) dX0_linkTrain_93 rfl ?_
            refine r_iload3 (pc2 := 95) dX0_linkTrain_94 rfl ?_
            refine r_cv4 (pc2 := 98) dX0_linkTrain_95 rfl vX0_75 (hKb (hfr78.ok hS0) hb_b) (by decide) (c_reach (d := d) (pc := pc) (s := (rch pc f (s.2.1 i % 13 < 12) (s.2.1 i + 1) s)) (ok := (13 ≤ s.2.1 i)) (pl2 := (s.2.1 i - 13)) (hfr78.ok hS0) hb_b hf ⟨by omega, by omega⟩ (fun p hp => by rw [hfr78.i (nf_b hb_b (by decide))]; exact hP0 p hp) (tI_r hI78 hf hr0) hI78.1 hR78 (by omega) (by omega)) ?_
            rintro _ M95 ⟨rfl, hf95, hR95⟩
            have hfr95 := hfr78.tr hf95
            have hI95 := (rch_I (ok := (13 ≤ s.2.1 i)) (pl := (s.2.1 i - 13)) hI78 (fun h => by have := hq0 (by omega); omega)).1
            show Go (Ct (d + 1)) _ yX0_linkTrain cX0_linkTrain none 0 0 98 [some (.ref (b)), some (.int (iI ((f : Nat) : Int))), some (.ref 39), some (.int (iI (((rch pc f (s.2.1 i % 13 < 12) (s.2.1 i + 1) s).2.2 : Nat) : Int))), some (.long (fl)), none, some (.int (iI ((i : Nat) : Int))), some (.int (iI ((s.2.1 i : Nat) : Int))), some (.int (iI (((s.2.1 i : Nat) : Int) % 13)))] [.int (iI (((rch pc f (13 ≤ s.2.1 i) (s.2.1 i - 13) (rch pc f (s.2.1 i % 13 < 12) (s.2.1 i + 1) s)).2.2 : Nat) : Int))] M95
            refine r_istore3 (pc2 := 99) dX0_linkTrain_98 rfl rfl ?_
            refine r_aload0 (pc2 := 100) dX0_linkTrain_99 rfl ?_
            refine r_iload7 (pc2 := 102) dX0_linkTrain_100 rfl ?_
            refine r_bipush (pc2 := 104) dX0_linkTrain_102 rfl (by decide) (by decide) ?_
            refine r_iadd (c := (((s.2.1 i : Nat) : Int) + 13)) (pc2 := 105) dX0_linkTrain_104 rfl rfl ?_
            refine r_iload1 (pc2 := 106) dX0_linkTrain_105 rfl ?_
            refine r_aload2 (pc2 := 107) dX0_linkTrain_106 rfl ?_
            refine r_iload3 (pc2 := 108) dX0_linkTrain_107 rfl ?_
            refine r_cv4 (pc2 := 111) dX0_linkTrain_108 rfl vX0_75 (hKb (hfr95.ok hS0) hb_b) (by decide) (c_reach (d := d) (pc := pc) (s := (rch pc f (13 ≤ s.2.1 i) (s.2.1 i - 13) (rch pc f (s.2.1 i % 13 < 12) (s.2.1 i + 1) s))) (ok := (s.2.1 i + 13 < 156)) (pl2 := (s.2.1 i + 13)) (hfr95.ok hS0) hb_b hf ⟨by omega, by omega⟩ (fun p hp => by rw [hfr95.i (nf_b hb_b (by decide))]; exact hP0 p hp) (tI_r hI95 hf hr0) hI95.1 hR95 (by omega) (by omega)) ?_
            rintro _ M108 ⟨rfl, hf108, hR108⟩
            have hfr108 := hfr95.tr hf108
            have hI108 := (rch_I (ok := (s.2.1 i + 13 < 156)) (pl := (s.2.1 i + 13)) hI95 (fun h => by have := hq0 (by omega); omega)).1
            show Go (Ct (d + 1)) _ yX0_linkTrain cX0_linkTrain none 0 0 111 [some (.ref (b)), some (.int (iI ((f : Nat) : Int))), some (.ref 39), some (.int (iI (((rch pc f (13 ≤ s.2.1 i) (s.2.1 i - 13) (rch pc f (s.2.1 i % 13 < 12) (s.2.1 i + 1) s)).2.2 : Nat) : Int))), some (.long (fl)), none, some (.int (iI ((i : Nat) : Int))), some (.int (iI ((s.2.1 i : Nat) : Int))), some (.int (iI (((s.2.1 i : Nat) : Int) % 13)))] [.int (iI (((rch pc f (s.2.1 i + 13 < 156) (s.2.1 i + 13) (rch pc f (13 ≤ s.2.1 i) (s.2.1 i - 13) (rch pc f (s.2.1 i % 13 < 12) (s.2.1 i + 1) s))).2.2 : Nat) : Int))] M108
            refine r_istore3 (pc2 := 112) dX0_linkTrain_111 rfl rfl ?_
            refine r_lload4 (pc2 := 114) dX0_linkTrain_112 rfl ?_
            refine r_aload0 (pc2 := 115) dX0_linkTrain_114 rfl ?_
            refine r_getR (pc2 := 118) dX0_linkTrain_115 rfl fX0_9 (hKb (hfr108.ok hS0) hb_b) (hRb0 (hfr108.ok hS0) hb_b) ?_
            refine r_iload7 (pc2 := 120) dX0_linkTrain_118 rfl ?_
            refine r_iald (z := (pc (s.2.1 i))) (pc2 := 121) dX0_linkTrain_120 rfl (hKb1 (hfr108.ok hS0) hb_b) (s.2.1 i) rfl (by omega) (by rw [hfr108.i (nf_b hb_b (by decide))]; exact (hP0 _ (hq0 (by omega))).1) ?_
            refine r_iconst (pc2 := 122) dX0_linkTrain_121 rfl ?_
            refine r_icne (tgt := 137) (pc2 := 125) dX0_linkTrain_122 rfl (by decide) ⟨by omega, by omega⟩ ⟨by omega, by omega⟩ (fun b_122 => ?_) (fun b_122 => ?_)
            · refine r_lconst (pc2 := 138) dX0_linkTrain_137 rfl ?_
              refine r_lor (pc2 := 139) dX0_linkTrain_138 rfl ?_
              refine r_lstore4 (pc2 := 141) dX0_linkTrain_139 rfl rfl ?_
              refine r_iinc6 (z := ((i + 1 : Nat) : Int)) (pc2 := 144) dX0_linkTrain_141 rfl (by omega) rfl ?_
              refine r_goto (tgt := 15) dX0_linkTrain_144 (by decide) ?_
              rw [if_pos (by omega)] at hT
              have en : nb4 pc f (s.2.1 i) s = (rch pc f (s.2.1 i + 13 < 156) (s.2.1 i + 13) (rch pc f (13 ≤ s.2.1 i) (s.2.1 i - 13) (rch pc f (s.2.1 i % 13 < 12) (s.2.1 i + 1) s))) := by unfold nb4; rw [rch_no (a := 0 < s.2.1 i % 13) (by omega)]
              have hnb := nb4_I hI (hq0 (by omega))
              rw [en] at hT hnb
              have hq9 : ∀ k, k < i + 1 → (rch pc f (s.2.1 i + 13 < 156) (s.2.1 i + 13) (rch pc f (13 ≤ s.2.1 i) (s.2.1 i - 13) (rch pc f (s.2.1 i % 13 < 12) (s.2.1 i + 1) s))).2.1 k = s.2.1 k := fun k hk => hnb.2.2 k (by omega)
              have hfl9 := flB_no hfl (by omega)
              exact ih (i + 1) _ _ M108 _ _ (by omega) (by have := hnb.2.1; omega) hnb.1 hR108 hfr108 (flB_q hfl9 hq9) hT
            · refine r_lconst (pc2 := 126) dX0_linkTrain_125 rfl ?_
              refine r_aload0 (pc2 := 127) dX0_linkTrain_126 rfl ?_
              refine r_getR (pc2 := 130) dX0_linkTrain_127 rfl fX0_18 (hKb (hfr108.ok hS0) hb_b) (hRb2 (hfr108.ok hS0) hb_b) ?_
              refine r_iload7 (pc2 := 132) dX0_linkTrain_130 rfl ?_
              refine r_iald (z := ((4 * ix (s.2.1 i) : Nat) : Int)) (pc2 := 133) dX0_linkTrain_132 rfl (hKb3 (hfr108.ok hS0) hb_b) (s.2.1 i) rfl (by omega) (by rw [hfr108.i (nf_b hb_b (by decide))]; exact (hX0 _ (hq0 (by omega))).1) ?_
              refine r_lshl (pc2 := 134) dX0_linkTrain_133 rfl ?_
              refine r_goto (tgt := 138) dX0_linkTrain_134 (by decide) ?_
              refine r_lor (pc2 := 139) dX0_linkTrain_138 rfl ?_
              refine r_lstore4 (pc2 := 141) dX0_linkTrain_139 rfl rfl ?_
              refine r_iinc6 (z := ((i + 1 : Nat) : Int)) (pc2 := 144) dX0_linkTrain_141 rfl (by omega) rfl ?_
              refine r_goto (tgt := 15) dX0_linkTrain_144 (by decide) ?_
              rw [if_pos (by omega)] at hT
              have en : nb4 pc f (s.2.1 i) s = (rch pc f (s.2.1 i + 13 < 156) (s.2.1 i + 13) (rch pc f (13 ≤ s.2.1 i) (s.2.1 i - 13) (rch pc f (s.2.1 i % 13 < 12) (s.2.1 i + 1) s))) := by unfold nb4; rw [rch_no (a := 0 < s.2.1 i % 13) (by omega)]
              have hnb := nb4_I hI (hq0 (by omega))
              rw [en] at hT hnb
              have hq9 : ∀ k, k < i + 1 → (rch pc f (s.2.1 i + 13 < 156) (s.2.1 i + 13) (rch pc f (13 ≤ s.2.1 i) (s.2.1 i - 13) (rch pc f (s.2.1 i % 13 < 12) (s.2.1 i + 1) s))).2.1 k = s.2.1 k := fun k hk => hnb.2.2 k (by omega)
              have hfl9 := flB_yes hfl (by omega) (hX0 (s.2.1 i) (hq0 (by omega))).2
              exact ih (i + 1) _ _ M108 _ _ (by omega) (by have := hnb.2.1; omega) hnb.1 hR108 hfr108 (flB_q hfl9 hq9) hT
        · refine r_aload0 (pc2 := 48) dX0_linkTrain_47 rfl ?_
          refine r_iload7 (pc2 := 50) dX0_linkTrain_48 rfl ?_
          refine r_iconst (pc2 := 51) dX0_linkTrain_50 rfl ?_
          refine r_isub (c := (((s.2.1 i : Nat) : Int) - 1)) (pc2 := 52) dX0_linkTrain_51 rfl rfl ?_
          refine r_iload1 (pc2 := 53) dX0_linkTrain_52 rfl ?_
          refine r_aload2 (pc2 := 54) dX0_linkTrain_53 rfl ?_
          refine r_iload3 (pc2 := 55) dX0_linkTrain_54 rfl ?_
          refine r_cv4 (pc2 := 58) dX0_linkTrain_55 rfl vX0_75 (hKb hS hb_b) (by decide) (c_reach (d := d) (pc := pc) (s := s) (ok := (0 < s.2.1 i % 13)) (pl2 := (s.2.1 i - 1)) (hfr.ok hS0) hb_b hf ⟨by omega, by omega⟩ (fun p hp => by rw [hfr.i (nf_b hb_b (by decide))]; exact hP0 p hp) (tI_r hI hf hr0) hI.1 hR (by omega) (by omega)) ?_
          rintro _ M55 ⟨rfl, hf55, hR55⟩
          have hfr55 := hfr.tr hf55
          have hI55 := (rch_I (ok := (0 < s.2.1 i % 13)) (pl := (s.2.1 i - 1)) hI (fun h => by have := hq0 (by omega); omega)).1
          show Go (Ct (d + 1)) _ yX0_linkTrain cX0_linkTrain none 0 0 58 [some (.ref (b)), some (.int (iI ((f : Nat) : Int))), some (.ref 39), some (.int (iI ((s.2.2 : Nat) : Int))), some (.long (fl)), none, some (.int (iI ((i : Nat) : Int))), some (.int (iI ((s.2.1 i : Nat) : Int))), some (.int (iI (((s.2.1 i : Nat) : Int) % 13)))] [.int (iI (((rch pc f (0 < s.2.1 i % 13) (s.2.1 i - 1) s).2.2 : Nat) : Int))] M55
          refine r_goto (tgt := 62) dX0_linkTrain_58 (by decide) ?_
          refine r_istore3 (pc2 := 63) dX0_linkTrain_62 rfl rfl ?_
          refine r_iload8 (pc2 := 65) dX0_linkTrain_63 rfl ?_
          refine r_bipush (pc2 := 67) dX0_linkTrain_65 rfl (by decide) (by decide) ?_
          refine r_icge (tgt := 84) (pc2 := 70) dX0_linkTrain_67 rfl (by decide) ⟨by omega, by omega⟩ ⟨by omega, by omega⟩ (fun b_67 => ?_) (fun b_67 => ?_)
          · refine r_iload3 (pc2 := 85) dX0_linkTrain_84 rfl ?_
            refine r_istore3 (pc2 := 86) dX0_linkTrain_85 rfl rfl ?_
            refine r_aload0 (pc2 := 87) dX0_linkTrain_86 rfl ?_
            refine r_iload7 (pc2 := 89) dX0_linkTrain_87 rfl ?_
            refine r_bipush (pc2 := 91) dX0_linkTrain_89 rfl (by decide) (by decide) ?_
            refine r_isub (c := (((s.2.1 i : Nat) : Int) - 13)) (pc2 := 92) dX0_linkTrain_91 rfl rfl ?_
            refine r_iload1 (pc2 := 93) dX0_linkTrain_92 rfl ?_
            refine r_aload2 (pc2 := 94) dX0_linkTrain_93 rfl ?_
            refine r_iload3 (pc2 := 95) dX0_linkTrain_94 rfl ?_
            refine r_cv4 (pc2 := 98) dX0_linkTrain_95 rfl vX0_75 (hKb (hfr55.ok hS0) hb_b) (by decide) (c_reach (d := d) (pc := pc) (s := (rch pc f (0 < s.2.1 i % 13) (s.2.1 i - 1) s)) (ok := (13 ≤ s.2.1 i)) (pl2 := (s.2.1 i - 13)) (hfr55.ok hS0) hb_b hf ⟨by omega, by omega⟩ (fun p hp => by rw [hfr55.i (nf_b hb_b (by decide))]; exact hP0 p hp) (tI_r hI55 hf hr0) hI55.1 hR55 (by omega) (by omega)) ?_
            rintro _ M95 ⟨rfl, hf95, hR95⟩
            have hfr95 := hfr55.tr hf95
            have hI95 := (rch_I (ok := (13 ≤ s.2.1 i)) (pl := (s.2.1 i - 13)) hI55 (fun h => by have := hq0 (by omega); omega)).1
            show Go (Ct (d + 1)) _ yX0_linkTrain cX0_linkTrain none 0 0 98 [some (.ref (b)), some (.int (iI ((f : Nat) : Int))), some (.ref 39), some (.int (iI (((rch pc f (0 < s.2.1 i % 13) (s.2.1 i - 1) s).2.2 : Nat) : Int))), some (.long (fl)), none, some (.int (iI ((i : Nat) : Int))), some (.int (iI ((s.2.1 i : Nat) : Int))), some (.int (iI (((s.2.1 i : Nat) : Int) % 13)))] [.int (iI (((rch pc f (13 ≤ s.2.1 i) (s.2.1 i - 13) (rch pc f (0 < s.2.1 i % 13) (s.2.1 i - 1) s)).2.2 : Nat) : Int))] M95
            refine r_istore3 (pc2 := 99) dX0_linkTrain_98 rfl rfl ?_
            refine r_aload0 (pc2 := 100) dX0_linkTrain_99 rfl ?_
            refine r_iload7 (pc2 := 102) dX0_linkTrain_100 rfl ?_
            refine r_bipush (pc2 := 104) dX0_linkTrain_102 rfl (by decide) (by decide) ?_
            refine r_iadd (c := (((s.2.1 i : Nat) : Int) + 13)) (pc2 := 105) dX0_linkTrain_104 rfl rfl ?_
            refine r_iload1 (pc2 := 106) dX0_linkTrain_105 rfl ?_
            refine r_aload2 (pc2 := 107) dX0_linkTrain_106 rfl ?_
            refine r_iload3 (pc2 := 108) dX0_linkTrain_107 rfl ?_
            refine r_cv4 (pc2 := 111) dX0_linkTrain_108 rfl vX0_75 (hKb (hfr95.ok hS0) hb_b) (by decide) (c_reach (d := d) (pc := pc) (s := (rch pc f (13 ≤ s.2.1 i) (s.2.1 i - 13) (rch pc f (0 < s.2.1 i % 13) (s.2.1 i - 1) s))) (ok := (s.2.1 i + 13 < 156)) (pl2 := (s.2.1 i + 13)) (hfr95.ok hS0) hb_b hf ⟨by omega, by omega⟩ (fun p hp => by rw [hfr95.i (nf_b hb_b (by decide))]; exact hP0 p hp) (tI_r hI95 hf hr0) hI95.1 hR95 (by omega) (by omega)) ?_
            rintro _ M108 ⟨rfl, hf108, hR108⟩
            have hfr108 := hfr95.tr hf108
            have hI108 := (rch_I (ok := (s.2.1 i + 13 < 156)) (pl := (s.2.1 i + 13)) hI95 (fun h => by have := hq0 (by omega); omega)).1
            show Go (Ct (d + 1)) _ yX0_linkTrain cX0_linkTrain none 0 0 111 [some (.ref (b)), some (.int (iI ((f : Nat) : Int))), some (.ref 39), some (.int (iI (((rch pc f (13 ≤ s.2.1 i) (s.2.1 i - 13) (rch pc f (0 < s.2.1 i % 13) (s.2.1 i - 1) s)).2.2 : Nat) : Int))), some (.long (fl)), none, some (.int (iI ((i : Nat) : Int))), some (.int (iI ((s.2.1 i : Nat) : Int))), some (.int (iI (((s.2.1 i : Nat) : Int) % 13)))] [.int (iI (((rch pc f (s.2.1 i + 13 < 156) (s.2.1 i + 13) (rch pc f (13 ≤ s.2.1 i) (s.2.1 i - 13) (rch pc f (0 < s.2.1 i % 13) (s.2.1 i - 1) s))).2.2 : Nat) : Int))] M108
            refine r_istore3 (pc2 := 112) dX0_linkTrain_111 rfl rfl ?_
            refine r_lload4 (pc2 := 114) dX0_linkTrain_112 rfl ?_
            refine r_aload0 (pc2 := 115) dX0_linkTrain_114 rfl ?_
            refine r_getR (pc2 := 118) dX0_linkTrain_115 rfl fX0_9 (hKb (hfr108.ok hS0) hb_b) (hRb0 (hfr108.ok hS0) hb_b) ?_
            refine r_iload7 (pc2 := 120) dX0_linkTrain_118 rfl ?_
            refine r_iald (z := (pc (s.2.1 i))) (pc2 := 121) dX0_linkTrain_120 rfl (hKb1 (hfr108.ok hS0) hb_b) (s.2.1 i) rfl (by omega) (by rw [hfr108.i (nf_b hb_b (by decide))]; exact (hP0 _ (hq0 (by omega))).1) ?_
            refine r_iconst (pc2 := 122) dX0_linkTrain_121 rfl ?_
            refine r_icne (tgt := 137) (pc2 := 125) dX0_linkTrain_122 rfl (by decide) ⟨by omega, by omega⟩ ⟨by omega, by omega⟩ (fun b_122 => ?_) (fun b_122 => ?_)
            · refine r_lconst (pc2 := 138) dX0_linkTrain_137 rfl ?_
              refine r_lor (pc2 := 139) dX0_linkTrain_138 rfl ?_
              refine r_lstore4 (pc2 := 141) dX0_linkTrain_139 rfl rfl ?_
              refine r_iinc6 (z := ((i + 1 : Nat) : Int)) (pc2 := 144) dX0_linkTrain_141 rfl (by omega) rfl ?_
              refine r_goto (tgt := 15) dX0_linkTrain_144 (by decide) ?_
              rw [if_pos (by omega)] at hT
              have en : nb4 pc f (s.2.1 i) s = (rch pc f (s.2.1 i + 13 < 156) (s.2.1 i + 13) (rch pc f (13 ≤ s.2.1 i) (s.2.1 i - 13) (rch pc f (0 < s.2.1 i % 13) (s.2.1 i - 1) s))) := by unfold nb4; rw [rch_no (a := s.2.1 i % 13 < 12) (by omega)]
              have hnb := nb4_I hI (hq0 (by omega))
              rw [en] at hT hnb
              have hq9 : ∀ k, k < i + 1 → (rch pc f (s.2.1 i + 13 < 156) (s.2.1 i + 13) (rch pc f (13 ≤ s.2.1 i) (s.2.1 i - 13) (rch pc f (0 < s.2.1 i % 13) (s.2.1 i - 1) s))).2.1 k = s.2.1 k := fun k hk => hnb.2.2 k (by omega)
              have hfl9 := flB_no hfl (by omega)
              exact ih (i + 1) _ _ M108 _ _ (by omega) (by have := hnb.2.1; omega) hnb.1 hR108 hfr108 (flB_q hfl9 hq9) hT
            · refine r_lconst (pc2 := 126) dX0_linkTrain_125 rfl ?_
              refine r_aload0 (pc2 := 127) dX0_linkTrain_126 rfl ?_
              refine r_getR (pc2 := 130) dX0_linkTrain_127 rfl fX0_18 (hKb (hfr108.ok hS0) hb_b) (hRb2 (hfr108.ok hS0) hb_b) ?_
              refine r_iload7 (pc2 := 132) dX0_linkTrain_130 rfl ?_
              refine r_iald (z := ((4 * ix (s.2.1 i) : Nat) : Int)) (pc2 := 133) dX0_linkTrain_132 rfl (hKb3 (hfr108.ok hS0) hb_b) (s.2.1 i) rfl (by omega) (by rw [hfr108.i (nf_b hb_b (by decide))]; exact (hX0 _ (hq0 (by omega))).1) ?_
              refine r_lshl (pc2 := 134) dX0_linkTrain_133 rfl ?_
              refine r_goto (tgt := 138) dX0_linkTrain_134 (by decide) ?_
              refine r_lor (pc2 := 139) dX0_linkTrain_138 rfl ?_
              refine r_lstore4 (pc2 := 141) dX0_linkTrain_139 rfl rfl ?_
              refine r_iinc6 (z := ((i + 1 : Nat) : Int)) (pc2 := 144) dX0_linkTrain_141 rfl (by omega) rfl ?_
              refine r_goto (tgt := 15) dX0_linkTrain_144 (by decide) ?_
              rw [if_pos (by omega)] at hT
              have en : nb4 pc f (s.2.1 i) s = (rch pc f (s.2.1 i + 13 < 156) (s.2.1 i + 13) (rch pc f (13 ≤ s.2.1 i) (s.2.1 i - 13) (rch pc f (0 < s.2.1 i % 13) (s.2.1 i - 1) s))) := by unfold nb4; rw [rch_no (a := s.2.1 i % 13 < 12) (by omega)]
              have hnb := nb4_I hI (hq0 (by omega))
              rw [en] at hT hnb
              have hq9 : ∀ k, k < i + 1 → (rch pc f (s.2.1 i + 13 < 156) (s.2.1 i + 13) (rch pc f (13 ≤ s.2.1 i) (s.2.1 i - 13) (rch pc f (0 < s.2.1 i % 13) (s.2.1 i - 1) s))).2.1 k = s.2.1 k := fun k hk => hnb.2.2 k (by omega)
              have hfl9 := flB_yes hfl (by omega) (hX0 (s.2.1 i) (hq0 (by omega))).2
              exact ih (i + 1) _ _ M108 _ _ (by omega) (by have := hnb.2.1; omega) hnb.1 hR108 hfr108 (flB_q hfl9 hq9) hT
          · refine r_aload0 (pc2 := 71) dX0_linkTrain_70 rfl ?_
            refine r_iload7 (pc2 := 73) dX0_linkTrain_71 rfl ?_
            refine r_iconst (pc2 := 74) dX0_linkTrain_73 rfl ?_
            refine r_iadd (c := (((s.2.1 i : Nat) : Int) + 1)) (pc2 := 75) dX0_linkTrain_74 rfl rfl ?_
            refine r_iload1 (pc2 := 76) dX0_linkTrain_75 rfl ?_
            refine r_aload2 (pc2 := 77) dX0_linkTrain_76 rfl ?_
            refine r_iload3 (pc2 := 78) dX0_linkTrain_77 rfl ?_
            refine r_cv4 (pc2 := 81) dX0_linkTrain_78 rfl vX0_75 (hKb (hfr55.ok hS0) hb_b) (by decide) (c_reach (d := d) (pc := pc) (s := (rch pc f (0 < s.2.1 i % 13) (s.2.1 i - 1) s)) (ok := (s.2.1 i % 13 < 12)) (pl2 := (s.2.1 i + 1)) (hfr55.ok hS0) hb_b hf ⟨by omega, by omega⟩ (fun p hp => by rw [hfr55.i (nf_b hb_b (by decide))]; exact hP0 p hp) (tI_r hI55 hf hr0) hI55.1 hR55 (by omega) (by omega)) ?_
            rintro _ M78 ⟨rfl, hf78, hR78⟩
            have hfr78 := hfr55.tr hf78
            have hI78 := (rch_I (ok := (s.2.1 i % 13 < 12)) (pl := (s.2.1 i + 1)) hI55 (fun h => by have := hq0 (by omega); omega)).1
            show Go (Ct (d + 1)) _ yX0_linkTrain cX0_linkTrain none 0 0 81 [some (.ref (b)), some (.int (iI ((f : Nat) : Int))), some (.ref 39), some (.int (iI (((rch pc f (0 < s.2.1 i % 13) (s.2.1 i - 1) s).2.2 : Nat) : Int))), some (.long (fl)), none, some (.int (iI ((i : Nat) : Int))), some (.int (iI ((s.2.1 i : Nat) : Int))), some (.int (iI (((s.2.1 i : Nat) : Int) % 13)))] [.int (iI (((rch pc f (s.2.1 i % 13 < 12) (s.2.1 i + 1) (rch pc f (0 < s.2.1 i % 13) (s.2.1 i - 1) s)).2.2 : Nat) : Int))] M78
            refine r_goto (tgt := 85) dX0_linkTrain_81 (by decide) ?_
            refine r_istore3 (pc2 := 86) dX0_linkTrain_85 rfl rfl ?_
            refine r_aload0 (pc2 := 87) dX0_linkTrain_86 rfl ?_
            refine r_iload7 (pc2 := 89) dX0_linkTrain_87 rfl ?_
            refine r_bipush (pc2 := 91) dX0_linkTrain_89 rfl (by decide) (by decide) ?_
            refine r_isub (c := (((s.2.1 i : Nat) : Int) - 13)) (pc2 := 92) dX0_linkTrain_91 rfl rfl ?_
            refine r_iload1 (pc2 := 93) dX0_linkTrain_92 rfl ?_
            refine r_aload2 (pc2 := 94) dX0_linkTrain_93 rfl ?_
            refine r_iload3 (pc2 := 95) dX0_linkTrain_94 rfl ?_
            refine r_cv4 (pc2 := 98) dX0_linkTrain_95 rfl vX0_75 (hKb (hfr78.ok hS0) hb_b) (by decide) (c_reach (d := d) (pc := pc) (s := (rch pc f (s.2.1 i % 13 < 12) (s.2.1 i + 1) (rch pc f (0 < s.2.1 i % 13) (s.2.1 i - 1) s))) (ok := (13 ≤ s.2.1 i)) (pl2 := (s.2.1 i - 13)) (hfr78.ok hS0) hb_b hf ⟨by omega, by omega⟩ (fun p hp => by rw [hfr78.i (nf_b hb_b (by decide))]; exact hP0 p hp) (tI_r hI78 hf hr0) hI78.1 hR78 (by omega) (by omega)) ?_
            rintro _ M95 ⟨rfl, hf95, hR95⟩
            have hfr95 := hfr78.tr hf95
            have hI95 := (rch_I (ok := (13 ≤ s.2.1 i)) (pl := (s.2.1 i - 13)) hI78 (fun h => by have := hq0 (by omega); omega)).1
            show Go (Ct (d + 1)) _ yX0_linkTrain cX0_linkTrain none 0 0 98 [some (.ref (b)), some (.int (iI ((f : Nat) : Int))), some (.ref 39), some (.int (iI (((rch pc f (s.2.1 i % 13 < 12) (s.2.1 i + 1) (rch pc f (0 < s.2.1 i % 13) (s.2.1 i - 1) s)).2.2 : Nat) : Int))), some (.long (fl)), none, some (.int (iI ((i : Nat) : Int))), some (.int (iI ((s.2.1 i : Nat) : Int))), some (.int (iI (((s.2.1 i : Nat) : Int) % 13)))] [.int (iI (((rch pc f (13 ≤ s.2.1 i) (s.2.1 i - 13) (rch pc f (s.2.1 i % 13 < 12) (s.2.1 i + 1) (rch pc f (0 < s.2.1 i % 13) (s.2.1 i - 1) s))).2.2 : Nat) : Int))] M95
            refine r_istore3 (pc2 := 99) dX0_linkTrain_98 rfl rfl ?_
            refine r_aload0 (pc2 := 100) dX0_linkTrain_99 rfl ?_
            refine r_iload7 (pc2 := 102) dX0_linkTrain_100 rfl ?_
            refine r_bipush (pc2 := 104) dX0_linkTrain_102 rfl (by decide) (by decide) ?_
            refine r_iadd (c := (((s.2.1 i : Nat) : Int) + 13)) (pc2 := 105) dX0_linkTrain_104 rfl rfl ?_
            refine r_iload1 (pc2 := 106) dX0_linkTrain_105 rfl ?_
            refine r_aload2 (pc2 := 107) dX0_linkTrain_106 rfl ?_
            refine r_iload3 (pc2 := 108) dX0_linkTrain_107 rfl ?_
            refine r_cv4 (pc2 := 111) dX0_linkTrain_108 rfl vX0_75 (hKb (hfr95.ok hS0) hb_b) (by decide) (c_reach (d := d) (pc := pc) (s := (rch pc f (13 ≤ s.2.1 i) (s.2.1 i - 13) (rch pc f (s.2.1 i % 13 < 12) (s.2.1 i + 1) (rch pc f (0 < s.2.1 i % 13) (s.2.1 i - 1) s)))) (ok := (s.2.1 i + 13 < 156)) (pl2 := (s.2.1 i + 13)) (hfr95.ok hS0) hb_b hf ⟨by omega, by omega⟩ (fun p hp => by rw [hfr95.i (nf_b hb_b (by decide))]; exact hP0 p hp) (tI_r hI95 hf hr0) hI95.1 hR95 (by omega) (by omega)) ?_
            rintro _ M108 ⟨rfl, hf108, hR108⟩
            have hfr108 := hfr95.tr hf108
            have hI108 := (rch_I (ok := (s.2.1 i + 13 < 156)) (pl := (s.2.1 i + 13)) hI95 (fun h => by have := hq0 (by omega); omega)).1
            show Go (Ct (d + 1)) _ yX0_linkTrain cX0_linkTrain none 0 0 111 [some (.ref (b)), some (.int (iI ((f : Nat) : Int))), some (.ref 39), some (.int (iI (((rch pc f (13 ≤ s.2.1 i) (s.2.1 i - 13) (rch pc f (s.2.1 i % 13 < 12) (s.2.1 i + 1) (rch pc f (0 < s.2.1 i % 13) (s.2.1 i - 1) s))).2.2 : Nat) : Int))), some (.long (fl)), none, some (.int (iI ((i : Nat) : Int))), some (.int (iI ((s.2.1 i : Nat) : Int))), some (.int (iI (((s.2.1 i : Nat) : Int) % 13)))] [.int (iI (((rch pc f (s.2.1 i + 13 < 156) (s.2.1 i + 13) (rch pc f (13 ≤ s.2.1 i) (s.2.1 i - 13) (rch pc f (s.2.1 i % 13 < 12) (s.2.1 i + 1) (rch pc f (0 < s.2.1 i % 13) (s.2.1 i - 1) s)))).2.2 : Nat) : Int))] M108
            refine r_istore3 (pc2 := 112) dX0_linkTrain_111 rfl rfl ?_
            refine r_lload4 (pc2 := 114) dX0_linkTrain_112 rfl ?_
            refine r_aload0 (pc2 := 115) dX0_linkTrain_114 rfl ?_
            refine r_getR (pc2 := 118) dX0_linkTrain_115 rfl fX0_9 (hKb (hfr108.ok hS0) hb_b) (hRb0 (hfr108.ok hS0) hb_b) ?_
            refine r_iload7 (pc2 := 120) dX0_linkTrain_118 rfl ?_
            refine r_iald (z := (pc (s.2.1 i))) (pc2 := 121) dX0_linkTrain_120 rfl (hKb1 (hfr108.ok hS0) hb_b) (s.2.1 i) rfl (by omega) (by rw [hfr108.i (nf_b hb_b (by decide))]; exact (hP0 _ (hq0 (by omega))).1) ?_
            refine r_iconst (pc2 := 122) dX0_linkTrain_121 rfl ?_
            refine r_icne (tgt := 137) (pc2 := 125) dX0_linkTrain_122 rfl (by decide) ⟨by omega, by omega⟩ ⟨by omega, by omega⟩ (fun b_122 => ?_) (fun b_122 => ?_)
            · refine r_lconst (pc2 := 138) dX0_linkTrain_137 rfl ?_
              refine r_lor (pc2 := 139) dX0_linkTrain_138 rfl ?_
              refine r_lstore4 (pc2 := 141) dX0_linkTrain_139 rfl rfl ?_
              refine r_iinc6 (z := ((i + 1 : Nat) : Int)) (pc2 := 144) dX0_linkTrain_141 rfl (by omega) rfl ?_
              refine r_goto (tgt := 15) dX0_linkTrain_144 (by decide) ?_
              rw [if_pos (by omega)] at hT
              have en : nb4 pc f (s.2.1 i) s = (rch pc f (s.2.1 i + 13 < 156) (s.2.1 i + 13) (rch pc f (13 ≤ s.2.1 i) (s.2.1 i - 13) (rch pc f (s.2.1 i % 13 < 12) (s.2.1 i + 1) (rch pc f (0 < s.2.1 i % 13) (s.2.1 i - 1) s)))) := rfl
              have hnb := nb4_I hI (hq0 (by omega))
              rw [en] at hT hnb
              have hq9 : ∀ k, k < i + 1 → (rch pc f (s.2.1 i + 13 < 156) (s.2.1 i + 13) (rch pc f (13 ≤ s.2.1 i) (s.2.1 i - 13) (rch pc f (s.2.1 i % 13 < 12) (s.2.1 i + 1) (rch pc f (0 < s.2.1 i % 13) (s.2.1 i - 1) s)))).2.1 k = s.2.1 k := fun k hk => hnb.2.2 k (by omega)
              have hfl9 := flB_no hfl (by omega)
              exact ih (i + 1) _ _ M108 _ _ (by omega) (by have := hnb.2.1; omega) hnb.1 hR108 hfr108 (flB_q hfl9 hq9) hT
            · refine r_lconst (pc2 := 126) dX0_linkTrain_125 rfl ?_
              refine r_aload0 (pc2 := 127) dX0_linkTrain_126 rfl ?_
              refine r_getR (pc2 := 130) dX0_linkTrain_127 rfl fX0_18 (hKb (hfr108.ok hS0) hb_b) (hRb2 (hfr108.ok hS0) hb_b) ?_
              refine r_iload7 (pc2 := 132) dX0_linkTrain_130 rfl ?_
              refine r_iald (z := ((4 * ix (s.2.1 i) : Nat) : Int)) (pc2 := 133) dX0_linkTrain_132 rfl (hKb3 (hfr108.ok hS0) hb_b) (s.2.1 i) rfl (by omega) (by rw [hfr108.i (nf_b hb_b (by decide))]; exact (hX0 _ (hq0 (by omega))).1) ?_
              refine r_lshl (pc2 := 134) dX0_linkTrain_133 rfl ?_
              refine r_goto (tgt := 138) dX0_linkTrain_134 (by decide) ?_
              refine r_lor (pc2 := 139) dX0_linkTrain_138 rfl ?_
              refine r_lstore4 (pc2 := 141) dX0_linkTrain_139 rfl rfl ?_
              refine r_iinc6 (z := ((i + 1 : Nat) : Int)) (pc2 := 144) dX0_linkTrain_141 rfl (by omega) rfl ?_
              refine r_goto (tgt := 15) dX0_linkTrain_144 (by decide) ?_
              rw [if_pos (by omega)] at hT
              have en : nb4 pc f (s.2.1 i) s = (rch pc f (s.2.1 i + 13 < 156) (s.2.1 i + 13) (rch pc f (13 ≤ s.2.1 i) (s.2.1 i - 13) (rch pc f (s.2.1 i % 13 < 12) (s.2.1 i + 1) (rch pc f (0 < s.2.1 i % 13) (s.2.1 i - 1) s)))) := rfl
              have hnb := nb4_I hI (hq0 (by omega))
              rw [en] at hT hnb
              have hq9 : ∀ k, k < i + 1 → (rch pc f (s.2.1 i + 13 < 156) (s.2.1 i + 13) (rch pc f (13 ≤ s.2.1 i) (s.2.1 i - 13) (rch pc f (s.2.1 i % 13 < 12) (s.2.1 i + 1) (rch pc f (0 < s.2.1 i % 13) (s.2.1 i - 1) s)))).2.1 k = s.2.1 k := fun k hk => hnb.2.2 k (by omega)
              have hfl9 := flB_yes hfl (by omega) (hX0 (s.2.1 i) (hq0 (by omega))).2
              exact ih (i + 1) _ _ M108 _ _ (by omega) (by have := hnb.2.1; omega) hnb.1 hR108 hfr108 (flB_q hfl9 hq9) hT
set_option maxHeartbeats 8000000 in
theorem lp2_X0_linkTrain {d : Nat} {Q : pQ} {b f e : Nat} {fl : Int64} {q : Nat → Nat} {x7 x8 : Option Value} (M1 : pM) (hS1 : sOk M1.1) (hb_b : isB b) (he : e ≤ 156) (hq : ∀ i, i < e → q i < 156 ∧ M1.2.1 39 i = ((q i : Nat) : Int))
    (hQ : ∀ M2 : pM, fr [b + 5] M1 M2 → (∀ p, (∃ k, k < e ∧ q k = p) → M2.2.2 (b + 5) p = fl) → (∀ p, ¬ (∃ k, k < e ∧ q k = p) → M2.2.2 (b + 5) p = M1.2.2 (b + 5) p) → Q none M2) :
    ∀ (n i : Nat) (M : pM), i + n = e → fr [b + 5] M1 M → (∀ p, (∃ k, k < i ∧ q k = p) → M.2.2 (b + 5) p = fl) → (∀ p, ¬ (∃ k, k < i ∧ q k = p) → M.2.2 (b + 5) p = M1.2.2 (b + 5) p) → Go (Ct d) Q yX0_linkTrain cX0_linkTrain none 0 0 150 [some (.ref b), some (.int (iI ((f : Nat) : Int))), some (.ref 39), some (.int (iI ((e : Nat) : Int))), some (.long fl), none, some (.int (iI ((i : Nat) : Int))), x7, x8] [] M := by
  intro n
  induction n with
  | zero =>
    intro i M hn hfr h1 h2
    have hS := hfr.ok hS1
    obtain rfl : i = e := by omega
    refine r_iload6 (pc2 := 152) dX0_linkTrain_150 rfl ?_
    refine r_iload3 (pc2 := 153) dX0_linkTrain_152 rfl ?_
    refine r_icge (tgt := 181) (pc2 := 156) dX0_linkTrain_153 rfl (by decide) ⟨by omega, by omega⟩ ⟨by omega, by omega⟩ (fun b_153 => ?_) (fun b_153 => ?_)
    · refine r_ret dX0_linkTrain_181 rfl ?_
      exact hQ M hfr h1 h2
    · exact absurd b_153 (by omega)
  | succ n ih =>
    intro i M hn hfr h1 h2
    have hS := hfr.ok hS1
    obtain ⟨q1, q2⟩ := hq i (by omega)
    have q3 : M.2.1 39 i = ((q i : Nat) : Int) := by rw [hfr.i (by simp only [List.mem_singleton]; exact Ne.symm (isB_n39 hb_b (by decide)))]; exact q2
    refine r_iload6 (pc2 := 152) dX0_linkTrain_150 rfl ?_
    refine r_iload3 (pc2 := 153) dX0_linkTrain_152 rfl ?_
    refine r_icge (tgt := 181) (pc2 := 156) dX0_linkTrain_153 rfl (by decide) ⟨by omega, by omega⟩ ⟨by omega, by omega⟩ (fun b_153 => ?_) (fun b_153 => ?_)
    · refine r_ret dX0_linkTrain_181 rfl ?_
      exact absurd b_153 (by omega)
    · refine r_iload6 (pc2 := 158) dX0_linkTrain_156 rfl ?_
      refine r_sipush (pc2 := 161) dX0_linkTrain_158 rfl (by decide) (by decide) ?_
      refine r_icge (tgt := 181) (pc2 := 164) dX0_linkTrain_161 rfl (by decide) ⟨by omega, by omega⟩ ⟨by omega, by omega⟩ (fun b_161 => ?_) (fun b_161 => ?_)
      · refine r_ret dX0_linkTrain_181 rfl ?_
        exact absurd b_161 (by omega)
      · refine r_aload0 (pc2 := 165) dX0_linkTrain_164 rfl ?_
        refine r_getR (pc2 := 168) dX0_linkTrain_165 rfl fX0_24 (hKb hS hb_b) (hRb4 hS hb_b) ?_
        refine r_aload2 (pc2 := 169) dX0_linkTrain_168 rfl ?_
        refine r_iload6 (pc2 := 171) dX0_linkTrain_169 rfl ?_
        refine r_iald (z := ((q i : Nat) : Int)) (pc2 := 172) dX0_linkTrain_171 rfl (hK_39 hS) i rfl (by omega) q3 ?_
        refine r_lload4 (pc2 := 174) dX0_linkTrain_172 rfl ?_
        refine r_last (pc2 := 175) dX0_linkTrain_174 rfl (hKb5 hS hb_b) (Nat.le_trans (isB_ge hb_b) (Nat.le_add_right _ _)) (q i) rfl (by omega) ?_
        refine r_iinc6 (z := ((i + 1 : Nat) : Int)) (pc2 := 178) dX0_linkTrain_175 rfl (by omega) rfl ?_
        refine r_goto (tgt := 150) dX0_linkTrain_178 (by decide) ?_
        refine ih (i + 1) _ (by omega) (hfr.J List.mem_cons_self) (fun p hp => ?_) (fun p hp => ?_)
        · by_cases e9 : p = q i
          · subst e9; exact pJ_at
          · rw [pJ_nk e9]; obtain ⟨k, k1, k2⟩ := hp; exact h1 p ⟨k, by rcases Nat.lt_or_ge k i with z | z; exact z; exact absurd (show p = q i by rw [← k2, show k = i by omega]) e9, k2⟩
        · have e9 : p ≠ q i := fun z => hp ⟨i, by omega, z.symm⟩
          rw [pJ_nk e9]; exact h2 p (fun ⟨k, k1, k2⟩ => hp ⟨k, by omega, k2⟩)
set_option maxHeartbeats 4000000 in
theorem c_X0_linkTrain {d : Nat} {M : pM} {b f : Nat} {pc tr : Nat → Int} {ix : Nat → Nat} (hS : sOk M.1) (hb_b : isB b) (hf : f < 156) (hP : ∀ p, p < 156 → M.2.1 (b + 1) p = pc p ∧ 0 ≤ pc p ∧ pc p ≤ 9) (hX : ∀ p, p < 156 → M.2.1 (b + 3) p = ((4 * ix p : Nat) : Int) ∧ ix p < 16) (hA : tA pc f tr) (hT : ∀ p, p < 156 → M.2.1 (b + 4) p = tr p) : Ct (d + 2) 0 0 yX0_linkTrain [.ref (b), .int (iI ((f : Nat) : Int)), .ref 39] M (fun v M2 => v = none ∧ fr [b + 4, 39, b + 5] M M2 ∧ (∀ p, p < 156 → M2.2.1 (b + 4) p = (tnk pc f tr).1 p) ∧ (∀ p, p < 156 → (tnk pc f tr).1 p = (f : Int) → ∀ j, j < 64 → (bl (M2.2.2 (b + 5) p) j = true ↔ ∃ q, q < 156 ∧ pc q = 4 ∧ (tnk pc f tr).1 q = (f : Int) ∧ j = 4 * ix q)) ∧ (∀ p, ¬ (tnk pc f tr).1 p = (f : Int) → M2.2.2 (b + 5) p = M.2.2 (b + 5) p)) := by
  refine ct_in (d := (d + 1)) kX0_linkTrain rfl (by decide) (Nat.le_of_ble_eq_true rfl) (by decide) ?_
  show Go (Ct (d + 1)) _ yX0_linkTrain cX0_linkTrain none 0 0 0 [some (.ref (b)), some (.int (iI ((f : Nat) : Int))), some (.ref 39), none, none, none, none, none, none] [] M
  have hr : ∀ p, p < 156 → -1 ≤ tr p ∧ tr p < 156 := fun p hp => by rcases hA.1 p with q | q <;> omega
  refine r_aload0 (pc2 := 1) dX0_linkTrain_0 rfl ?_
  refine r_iload1 (pc2 := 2) dX0_linkTrain_1 rfl ?_
  refine r_iload1 (pc2 := 3) dX0_linkTrain_2 rfl ?_
  refine r_aload2 (pc2 := 4) dX0_linkTrain_3 rfl ?_
  refine r_iconst (pc2 := 5) dX0_linkTrain_4 rfl ?_
  refine r_cv4 (pc2 := 8) dX0_linkTrain_5 rfl vX0_75 (hKb hS hb_b) (by decide) (c_reach (d := d) (pc := pc) (s := (tr, (fun _ => 0), 0)) (ok := True) (pl2 := f) hS hb_b hf ⟨by omega, by omega⟩ hP hr (by have := cu_le tr 156; simp only; omega) ⟨hT, fun i hi => by simp only at hi; omega⟩ (by simp only [iff_true]; omega) (by omega)) ?_
  rintro _ M5 ⟨rfl, hf5, hR5⟩
  have hI5 : tI pc tr f (rch pc f True f (tr, (fun _ => 0), 0)) := (rch_I (ok := True) (pl := f) ⟨by simp only; have := cu_le tr 156; omega, fun i hi => by simp only at hi; omega, fun p hp => by simp only at hp; rcases hA.1 p with q | q <;> omega, fun p _ => rfl, fun p hp => by simp only at hp; rcases hA.1 p with q | q <;> omega⟩ (fun _ => hf)).1
  show Go (Ct (d + 1)) _ yX0_linkTrain cX0_linkTrain none 0 0 8 [some (.ref (b)), some (.int (iI ((f : Nat) : Int))), some (.ref 39), none, none, none, none, none, none] [.int (iI (((rch pc f True f (tr, (fun _ => 0), 0)).2.2 : Nat) : Int))] M5
  refine r_istore3 (pc2 := 9) dX0_linkTrain_8 rfl rfl ?_
  refine r_lconst (pc2 := 10) dX0_linkTrain_9 rfl ?_
  refine r_lstore4 (pc2 := 12) dX0_linkTrain_10 rfl rfl ?_
  refine r_iconst (pc2 := 13) dX0_linkTrain_12 rfl ?_
  refine r_istore6 (pc2 := 15) dX0_linkTrain_13 rfl rfl ?_
  refine lp1_X0_linkTrain (pc := pc) (tr0 := tr) (ix := ix) M (tnk pc f tr) hS hb_b hf hr hP hX (fun M2 fl2 i2 x7 x8 h1 h2 h3 h4 => ?_) 157 0 _ _ M5 _ _ (by omega) (by omega) hI5 hR5 hf5 (flB_q (q := fun _ => 0) flB_0 (fun k hk => by omega)) rfl
  refine r_iconst (pc2 := 148) dX0_linkTrain_147 rfl ?_
  refine r_istore6 (pc2 := 150) dX0_linkTrain_148 rfl rfl ?_
  have he := h2.1
  refine lp2_X0_linkTrain (e := (tnk pc f tr).2.2) (q := (tnk pc f tr).2.1) M2 (h1.ok hS) hb_b (by omega) (fun i hi => ⟨(h2.2.1 i hi).1, h3.2 i hi⟩) (fun M3 g1 g2 g3 => ?_) (tnk pc f tr).2.2 0 M2 (by omega) fr.rf (fun p hp => by obtain ⟨k, k1, -⟩ := hp; omega) (fun p _ => rfl)
  refine ⟨rfl, (h1.mono (by intro a ha; simp only [List.mem_cons, List.not_mem_nil, or_false] at ha ⊢; rcases ha with rfl | rfl <;> simp)).tr (g1.mono (by intro a ha; simp only [List.mem_singleton] at ha; subst ha; simp)), fun p hp => ?_, fun p hp he2 j hj => ?_, fun p hp => ?_⟩
  · rw [g1.i (by simp)]; exact h3.1 p hp
  · rw [g2 p (h2.2.2.1 p he2), h4 j hj]
    constructor
    · rintro ⟨k, k1, k2, k3⟩; exact ⟨_, (h2.2.1 k k1).1, k2, (h2.2.1 k k1).2, k3⟩
    · rintro ⟨z, z1, z2, z3, z4⟩; obtain ⟨k, k1, k2⟩ := h2.2.2.1 z z3; exact ⟨k, k1, by rw [k2]; exact z2, by rw [k2]; exact z4⟩
  · rw [g3 p (fun ⟨k, k1, k2⟩ => hp (by rw [← k2]; exact (h2.2.1 k k1).2)), h1.j (nf_b hb_b (by decide))]
set_option maxHeartbeats 4000000 in
theorem lp_fill {d : Nat} {Q : pQ} {aa n : Nat} {z : Int} (M0 : pM) (hK0 : M0.1.2.1 aa = (2, n)) (h2a : 2 ≤ aa) (hn : n ≤ 1000000) (hQ : ∀ M2, fr [aa] M0 M2 → (∀ i, i < n → M2.2.1 aa i = z) → (∀ i, n ≤ i → M2.2.1 aa i = M0.2.1 aa i) → Q none M2) :
    ∀ (m i : Nat) (M : pM), i + m = n → fr [aa] M0 M → (∀ k, k < i → M.2.1 aa k = z) → (∀ k, i ≤ k → M.2.1 aa k = M0.2.1 aa k) → Go (Ct d) Q yJ7_fill_53178 cJ7_fill_53178 none 0 0 5 [some (.ref aa), some (.int (iI z)), some (.int (iI ((i : Nat) : Int))), some (.int (iI ((n : Nat) : Int)))] [] M := by
  intro m
  induction m with
  | zero =>
    intro i M hm hfr h1 h2
    have hKa : M.1.2.1 aa = (2, n) := by rw [hfr.1]; exact hK0
    obtain rfl : i = n := by omega
    refine r_iload2 (pc2 := 6) dJ7_fill_53178_5 rfl ?_
    refine r_iload3 (pc2 := 7) dJ7_fill_53178_6 rfl ?_
    refine r_icge (tgt := 20) (pc2 := 10) dJ7_fill_53178_7 rfl (by decide) ⟨by omega, by omega⟩ ⟨by omega, by omega⟩ (fun b_7 => ?_) (fun b_7 => ?_)
    · refine r_ret dJ7_fill_53178_20 rfl ?_
      exact hQ M hfr h1 h2
    · exact absurd b_7 (by omega)
  | succ m ih =>
    intro i M hm hfr h1 h2
    have hKa : M.1.2.1 aa = (2, n) := by rw [hfr.1]; exact hK0
    refine r_iload2 (pc2 := 6) dJ7_fill_53178_5 rfl ?_
    refine r_iload3 (pc2 := 7) dJ7_fill_53178_6 rfl ?_
    refine r_icge (tgt := 20) (pc2 := 10) dJ7_fill_53178_7 rfl (by decide) ⟨by omega, by omega⟩ ⟨by omega, by omega⟩ (fun b_7 => ?_) (fun b_7 => ?_)
    · refine r_ret dJ7_fill_53178_20 rfl ?_
      exact absurd b_7 (by omega)
    · refine r_aload0 (pc2 := 11) dJ7_fill_53178_10 rfl ?_
      refine r_iload2 (pc2 := 12) dJ7_fill_53178_11 rfl ?_
      refine r_iload1 (pc2 := 13) dJ7_fill_53178_12 rfl ?_
      refine r_iast (z := z) (pc2 := 14) dJ7_fill_53178_13 rfl hKa h2a i rfl (by omega) ?_
      refine r_iinc2 (z := ((i + 1 : Nat) : Int)) (pc2 := 17) dJ7_fill_53178_14 rfl (by omega) rfl ?_
      refine r_goto (tgt := 5) dJ7_fill_53178_17 (by decide) ?_
      refine ih (i + 1) _ (by omega) (hfr.I List.mem_cons_self) (fun k hk => ?_) (fun k hk => ?_)
      · by_cases e9 : k = i
        · subst e9; exact pI_at
        · rw [pI_nk e9]; exact h1 k (by omega)
      · rw [pI_nk (by omega)]; exact h2 k (by omega)
set_option maxHeartbeats 4000000 in
theorem c_fill {d : Nat} {M : pM} {aa n : Nat} {z : Int} (hKa : M.1.2.1 aa = (2, n)) (h2a : 2 ≤ aa) (hn : n ≤ 1000000) : Ct (d + 1) 0 0 yJ7_fill_53178 [.ref (aa), .int (iI z)] M (fun v M2 => v = none ∧ fr [aa] M M2 ∧ (∀ i, i < n → M2.2.1 aa i = z) ∧ (∀ i, n ≤ i → M2.2.1 aa i = M.2.1 aa i)) := by
  refine ct_in (d := d) kJ7_fill_53178 rfl (by decide) (Nat.le_of_ble_eq_true rfl) (by decide) ?_
  show Go (Ct d) _ yJ7_fill_53178 cJ7_fill_53178 none 0 0 0 [some (.ref (aa)), some (.int (iI z)), none, none] [] M
  refine r_iconst (pc2 := 1) dJ7_fill_53178_0 rfl ?_
  refine r_istore2 (pc2 := 2) dJ7_fill_53178_1 rfl rfl ?_
  refine r_aload0 (pc2 := 3) dJ7_fill_53178_2 rfl ?_
  refine r_alen (pc2 := 4) dJ7_fill_53178_3 rfl hKa (by decide) ?_
  refine r_istore3 (pc2 := 5) dJ7_fill_53178_4 rfl rfl ?_
  exact lp_fill M hKa h2a hn (fun M2 h1 h2 h3 => ⟨rfl, h1, h2, h3⟩) n 0 M (by omega) fr.rf (fun k hk => by omega) (fun k _ => rfl)
set_option maxHeartbeats 4000000 in
theorem lp_X0_linkTrains {d : Nat} {Q : pQ} {b : Nat} {pc : Nat → Int} {ix : Nat → Nat} (M0 : pM) (hS0 : sOk M0.1) (hb_b : isB b) (hP0 : ∀ p, p < 156 → M0.2.1 (b + 1) p = pc p ∧ 0 ≤ pc p ∧ pc p ≤ 9) (hX0 : ∀ p, p < 156 → M0.2.1 (b + 3) p = ((4 * ix p : Nat) : Int) ∧ ix p < 16)
    (hQ : ∀ M2, fr [b + 4, 39, b + 5] M0 M2 → (∀ p, p < 156 → M2.2.1 (b + 4) p = tal pc 156 p) → (∀ p, p < 156 → 0 ≤ tal pc 156 p → ∀ j, j < 64 → (bl (M2.2.2 (b + 5) p) j = true ↔ ∃ q, q < 156 ∧ pc q = 4 ∧ tal pc 156 q = tal pc 156 p ∧ j = 4 * ix q)) → Q none M2) :
    ∀ (m f : Nat) (M : pM), f + m = 156 → fr [b + 4, 39, b + 5] M0 M → (∀ p, p < 156 → M.2.1 (b + 4) p = tal pc f p) → (∀ p, p < 156 → 0 ≤ tal pc f p → ∀ j, j < 64 → (bl (M.2.2 (b + 5) p) j = true ↔ ∃ q, q < 156 ∧ pc q = 4 ∧ tal pc f q = tal pc f p ∧ j = 4 * ix q)) → Go (Ct (d + 2)) Q yX0_linkTrains cX0_linkTrains none 0 0 10 [some (.ref b), some (.ref 39), some (.int (iI ((f : Nat) : Int)))] [] M := by
  intro m
  induction m with
  | zero =>
    intro f M hm hfr h1 h2
    have hS := hfr.ok hS0
    obtain rfl : f = 156 := by omega
    refine r_iload2 (pc2 := 11) dX0_linkTrains_10 rfl ?_
    refine r_sipush (pc2 := 14) dX0_linkTrains_11 rfl (by decide) (by decide) ?_
    refine r_icge (tgt := 29) (pc2 := 17) dX0_linkTrains_14 rfl (by decide) ⟨by omega, by omega⟩ ⟨by omega, by omega⟩ (fun b_14 => ?_) (fun b_14 => ?_)
    · refine r_ret dX0_linkTrains_29 rfl ?_
      exact hQ M hfr h1 h2
    · exact absurd b_14 (by omega)
  | succ m ih =>
    intro f M hm hfr h1 h2
    have hS := hfr.ok hS0
    have hP : ∀ p, p < 156 → M.2.1 (b + 1) p = pc p ∧ 0 ≤ pc p ∧ pc p ≤ 9 := fun p hp => by rw [hfr.i (nf_c hb_b (by decide))]; exact hP0 p hp
    have hX : ∀ p, p < 156 → M.2.1 (b + 3) p = ((4 * ix p : Nat) : Int) ∧ ix p < 16 := fun p hp => by rw [hfr.i (nf_c hb_b (by decide))]; exact hX0 p hp
    have hA := tal_A (pc := pc) f (by omega)
    have hI := (tnk_I (by omega) hA).1
    refine r_iload2 (pc2 := 11) dX0_linkTrains_10 rfl ?_
    refine r_sipush (pc2 := 14) dX0_linkTrains_11 rfl (by decide) (by decide) ?_
    refine r_icge (tgt := 29) (pc2 := 17) dX0_linkTrains_14 rfl (by decide) ⟨by omega, by omega⟩ ⟨by omega, by omega⟩ (fun b_14 => ?_) (fun b_14 => ?_)
    · refine r_ret dX0_linkTrains_29 rfl ?_
      exact absurd b_14 (by omega)
    · refine r_aload0 (pc2 := 18) dX0_linkTrains_17 rfl ?_
      refine r_iload2 (pc2 := 19) dX0_linkTrains_18 rfl ?_
      refine r_aload1 (pc2 := 20) dX0_linkTrains_19 rfl ?_
      refine r_cv2 (pc2 := 23) dX0_linkTrains_20 rfl vX0_71 (hKb hS hb_b) (by decide) (c_X0_linkTrain (d := d) (pc := pc) (ix := ix) (tr := tal pc f) hS hb_b (by omega) hP hX hA h1) ?_
      rintro _ M9 ⟨rfl, hf9, hT9, hF9, hG9⟩
      show Go (Ct (d + 2)) _ yX0_linkTrains cX0_linkTrains none 0 0 23 [some (.ref (b)), some (.ref 39), some (.int (iI ((f : Nat) : Int)))] [] M9
      refine r_iinc2 (z := ((f + 1 : Nat) : Int)) (pc2 := 26) dX0_linkTrains_23 rfl (by omega) rfl ?_
      refine r_goto (tgt := 10) dX0_linkTrains_26 (by decide) ?_
      refine ih (f + 1) M9 (by omega) (hfr.tr hf9) hT9 (fun p hp h0 j hj => ?_)
      show bl _ j = true ↔ ∃ q, q < 156 ∧ pc q = 4 ∧ (tnk pc f (tal pc f)).1 q = (tnk pc f (tal pc f)).1 p ∧ j = 4 * ix q
      have h0 : 0 ≤ (tnk pc f (tal pc f)).1 p := h0
      by_cases e9 : (tnk pc f (tal pc f)).1 p = (f : Int)
      · rw [e9]; exact hF9 p hp e9 j hj
      · rw [hG9 p e9]
        have e8 := hI.2.2.2.1 p e9
        rw [e8] at h0 ⊢
        rw [h2 p hp h0 j hj]
        have nf : ¬ tal pc f p = (f : Int) := by rw [← e8]; exact e9
        constructor
        · rintro ⟨q, q1, q2, q3, q4⟩
          refine ⟨q, q1, q2, ?_, q4⟩
          by_cases e7 : (tnk pc f (tal pc f)).1 q = (f : Int)
          · have := (hI.2.2.2.2 q e7).1; omega
          · rw [hI.2.2.2.1 q e7]; exact q3
        · rintro ⟨q, q1, q2, q3, q4⟩
          refine ⟨q, q1, q2, ?_, q4⟩
          by_cases e7 : (tnk pc f (tal pc f)).1 q = (f : Int)
          · exact absurd (q3.symm.trans e7) nf
          · rw [hI.2.2.2.1 q e7] at q3; exact q3
set_option maxHeartbeats 4000000 in
theorem c_X0_linkTrains {d : Nat} {M : pM} {b : Nat} {pc : Nat → Int} {ix : Nat → Nat} (hS : sOk M.1) (hb_b : isB b) (hP : ∀ p, p < 156 → M.2.1 (b + 1) p = pc p ∧ 0 ≤ pc p ∧ pc p ≤ 9) (hX : ∀ p, p < 156 → M.2.1 (b + 3) p = ((4 * ix p : Nat) : Int) ∧ ix p < 16) : Ct (d + 3) 0 0 yX0_linkTrains [.ref (b), .ref 39] M (fun v M2 => v = none ∧ fr [b + 4, 39, b + 5] M M2 ∧ (∀ p, p < 156 → M2.2.1 (b + 4) p = tal pc 156 p) ∧ (∀ p, p < 156 → 0 ≤ tal pc 156 p → ∀ j, j < 64 → (bl (M2.2.2 (b + 5) p) j = true ↔ ∃ q, q < 156 ∧ pc q = 4 ∧ tal pc 156 q = tal pc 156 p ∧ j = 4 * ix q))) := by
  refine ct_in (d := (d + 2)) kX0_linkTrains rfl (by decide) (Nat.le_of_ble_eq_true rfl) (by decide) ?_
  show Go (Ct (d + 2)) _ yX0_linkTrains cX0_linkTrains none 0 0 0 [some (.ref (b)), some (.ref 39), none] [] M
  refine r_aload0 (pc2 := 1) dX0_linkTrains_0 rfl ?_
  refine r_getR (pc2 := 4) dX0_linkTrains_1 rfl fX0_21 (hKb hS hb_b) (hRb3 hS hb_b) ?_
  refine r_iconst (pc2 := 5) dX0_linkTrains_4 rfl ?_
  refine r_cs2 (pc2 := 8) dX0_linkTrains_5 rfl sX0_40 (by decide) (c_fill (d := d + 1) (aa := b + 4) (n := 156) (z := -1) (hKb4 hS hb_b) (by have := isB_ge hb_b; omega) (by decide)) ?_
  rintro _ M9 ⟨rfl, hf9, hT9, -⟩
  have hf8 : fr [b + 4, 39, b + 5] M M9 := hf9.mono (by intro a ha; simp only [List.mem_singleton] at ha; subst ha; simp)
  show Go (Ct (d + 2)) _ yX0_linkTrains cX0_linkTrains none 0 0 8 [some (.ref (b)), some (.ref 39), none] [] M9
  refine r_iconst (pc2 := 9) dX0_linkTrains_8 rfl ?_
  refine r_istore2 (pc2 := 10) dX0_linkTrains_9 rfl rfl ?_
  exact lp_X0_linkTrains (pc := pc) (ix := ix) M hS hb_b hP hX (fun M2 h1 h2 h3 => ⟨rfl, h1, h2, h3⟩) 156 0 M9 (by omega) hf8 (fun p hp => hT9 p hp) (fun p hp h0 => absurd h0 (by show ¬ (0 : Int) ≤ -1; omega))
