/-! Math.min, Math.max; the class's Seen: begin, note -/
theorem occC_0 {M : pM} {c : Nat} (h : 0 ≤ M.2.1 261 c) : occC M 0 c = none := if_neg (fun q => by have := q.1; omega)
set_option maxHeartbeats 4000000 in
theorem c_J9_min_7cf53 {d : Nat} {M : pM} {x z : Int} (hx : inR x) (hz : inR z) : Ct (d + 1) 0 0 yJ9_min_7cf53 [.int (iI x), .int (iI z)] M (fun v M2 => v = some (.int (iI (min x z))) ∧ M2 = M) := by
  refine ct_inF (d := d) kJ9_min_7cf53 (by decide +kernel) (by decide) (Nat.le_of_ble_eq_true rfl) (by decide) ?_
  show Go (Ct d) _ yJ9_min_7cf53 cJ9_min_7cf53 (some .int) 0 0 0 [some (.int (iI x)), some (.int (iI z))] [] M
  obtain ⟨x1, x2⟩ := hx
  obtain ⟨z1, z2⟩ := hz
  refine r_iload0 (pc2 := 1) dJ9_min_7cf53_0 rfl ?_
  refine r_iload1 (pc2 := 2) dJ9_min_7cf53_1 rfl ?_
  refine r_icgt (tgt := 9) (pc2 := 5) dJ9_min_7cf53_2 rfl (by decide) ⟨by omega, by omega⟩ ⟨by omega, by omega⟩ (fun b_2 => ?_) (fun b_2 => ?_)
  · refine r_iload1 (pc2 := 10) dJ9_min_7cf53_9 rfl ?_
    refine r_ireti dJ9_min_7cf53_10 rfl ?_
    refine ⟨?_, rfl⟩
    congr 3
    omega
  · refine r_iload0 (pc2 := 6) dJ9_min_7cf53_5 rfl ?_
    refine r_goto (tgt := 10) dJ9_min_7cf53_6 (by decide) ?_
    refine r_ireti dJ9_min_7cf53_10 rfl ?_
    refine ⟨?_, rfl⟩
    congr 3
    omega
set_option maxHeartbeats 4000000 in
theorem c_J9_max_7cf53 {d : Nat} {M : pM} {x z : Int} (hx : inR x) (hz : inR z) : Ct (d + 1) 0 0 yJ9_max_7cf53 [.int (iI x), .int (iI z)] M (fun v M2 => v = some (.int (iI (max x z))) ∧ M2 = M) := by
  refine ct_inF (d := d) kJ9_max_7cf53 (by decide +kernel) (by decide) (Nat.le_of_ble_eq_true rfl) (by decide) ?_
  show Go (Ct d) _ yJ9_max_7cf53 cJ9_max_7cf53 (some .int) 0 0 0 [some (.int (iI x)), some (.int (iI z))] [] M
  obtain ⟨x1, x2⟩ := hx
  obtain ⟨z1, z2⟩ := hz
  refine r_iload0 (pc2 := 1) dJ9_max_7cf53_0 rfl ?_
  refine r_iload1 (pc2 := 2) dJ9_max_7cf53_1 rfl ?_
  refine r_iclt (tgt := 9) (pc2 := 5) dJ9_max_7cf53_2 rfl (by decide) ⟨by omega, by omega⟩ ⟨by omega, by omega⟩ (fun b_2 => ?_) (fun b_2 => ?_)
  · refine r_iload1 (pc2 := 10) dJ9_max_7cf53_9 rfl ?_
    refine r_ireti dJ9_max_7cf53_10 rfl ?_
    refine ⟨?_, rfl⟩
    congr 3
    omega
  · refine r_iload0 (pc2 := 6) dJ9_max_7cf53_5 rfl ?_
    refine r_goto (tgt := 10) dJ9_max_7cf53_6 (by decide) ?_
    refine r_ireti dJ9_max_7cf53_10 rfl ?_
    refine ⟨?_, rfl⟩
    congr 3
    omega
set_option maxHeartbeats 4000000 in
theorem c_X6_begin {d : Nat} {M : pM} {z : Int} (hS : sOk M.1) (hz : 0 ≤ z ∧ z ≤ 4000) : Ct (d + 2) 0 0 yX6_begin [.ref 256, .int (iI z)] M (fun v M2 => v = none ∧ M2 = pI (pI M 256 6 0) 256 7 z) := by
  refine ct_in (d := (d + 1)) kX6_begin rfl (by decide) (Nat.le_of_ble_eq_true rfl) (by decide) ?_
  show Go (Ct (d + 1)) _ yX6_begin cX6_begin none 0 0 0 [some (.ref 256), some (.int (iI z))] [] M
  refine r_aload0 (pc2 := 1) dX6_begin_0 rfl ?_
  refine r_iconst (pc2 := 2) dX6_begin_1 rfl ?_
  refine r_putI (z := 0) (pc2 := 5) dX6_begin_2 rfl fX6_31 (w6_6 _) (hK_256 hS) (by decide) ?_
  refine r_aload0 (pc2 := 6) dX6_begin_5 rfl ?_
  refine r_iload1 (pc2 := 7) dX6_begin_6 rfl ?_
  refine r_sipush (pc2 := 10) dX6_begin_7 rfl (by decide) (by decide) ?_
  refine r_cs2 (pc2 := 13) dX6_begin_10 rfl sX6_35 (by decide) (c_J9_min_7cf53 (d := d) (x := z) (z := 4000) ⟨by omega, by omega⟩ ⟨by omega, by omega⟩) ?_
  rintro _ M9 ⟨rfl, h9⟩
  rw [h9, show min z 4000 = z by omega]
  show Go (Ct (d + 1)) _ yX6_begin cX6_begin none 0 0 13 [some (.ref 256), some (.int (iI z))] [.int (iI z), .ref 256] (pI M 256 6 0)
  refine r_putI (z := z) (pc2 := 16) dX6_begin_13 rfl fX6_41 (w6_7 _) (hK_256 hS) (by decide) ?_
  refine r_ret dX6_begin_16 rfl ?_
  exact ⟨rfl, rfl⟩
theorem SN.start {M : pM} {z : Int} {A B : Nat → Int64} (h4 : ∀ c, c < 8192 → 0 ≤ M.2.1 261 c ∧ M.2.1 261 c < 4000) (h5 : ∀ i, i < 4000 → 0 ≤ M.2.1 262 i ∧ M.2.1 262 i < 8192) : SN (pI (pI M 256 6 0) 256 7 z) 0 A B :=
  ⟨rfl, by omega, fun i hi => by omega, h4, h5, HI.nil (fun c hc => occC_0 (h4 c hc).1)⟩
theorem note_SN {M : pM} {n t : Nat} {A B : Nat → Int64} {a b : Int64} {pr hp : Int} (hN : SN M n A B) (ht : t < 8192) (hw : HW (occC M n) A B (hC a b) t a b) (ho : occC M n ((hC a b + t) % 8192) = none) (hlt : n < 4000) :
    SN (pI (pI (pI (pI (pI (pJ (pJ (pI M 256 8 1) 257 n a) 258 n b) 259 n pr) 260 n hp) 262 n (((hC a b + t) % 8192 : Nat) : Int)) 261 ((hC a b + t) % 8192) (n : Int)) 256 6 (((n : Nat) : Int) + 1)) (n + 1) (va_up A n a) (va_up B n b) := by
  obtain ⟨s1, s2, s3, s4, s5, s6⟩ := hN
  have hcl : (hC a b + t) % 8192 < 8192 := Nat.mod_lt _ (by decide)
  generalize hce : (hC a b + t) % 8192 = e at *
  have e261 : ∀ c, ((pI (pI (pI (pI (pI (pJ (pJ (pI M 256 8 1) 257 n a) 258 n b) 259 n pr) 260 n hp) 262 n (e : Int)) 261 (e) (n : Int)) 256 6 (((n : Nat) : Int) + 1))).2.1 261 c = if c = e then (n : Int) else M.2.1 261 c := fun c => by
    show va_up (M.2.1 261) e (n : Int) c = _
    unfold va_up; rfl
  have e262 : ∀ i, ((pI (pI (pI (pI (pI (pJ (pJ (pI M 256 8 1) 257 n a) 258 n b) 259 n pr) 260 n hp) 262 n (e : Int)) 261 (e) (n : Int)) 256 6 (((n : Nat) : Int) + 1))).2.1 262 i = if i = n then (e : Int) else M.2.1 262 i := fun c => by
    show va_up (M.2.1 262) n (e : Int) c = _
    unfold va_up; rfl
  refine ⟨?_, by omega, fun i hi => ?_, fun c hc => ?_, fun i hi => ?_, ?_⟩
  · show ((n : Nat) : Int) + 1 = _; omega
  · show va_up (M.2.2 257) n a i = va_up A n a i ∧ va_up (M.2.2 258) n b i = va_up B n b i
    by_cases q : i = n
    · subst q; rw [up_at, up_at, up_at, up_at]; exact ⟨rfl, rfl⟩
    · rw [up_ne q, up_ne q, up_ne q, up_ne q]; exact s3 i (by omega)
  · rw [e261]; have := s4 c hc; split <;> omega
  · rw [e262]; have := s5 i hi; split <;> omega
  · refine HI.add s6 ht hw (by rw [hce]; exact ho) (fun c hc => ?_)
    rw [hce]
    unfold occC
    rw [e261, e262]
    have q4 := s4 c hc
    by_cases hx : c = e
    · rw [if_pos hx, if_pos hx, if_pos ⟨by omega, by rw [if_pos (by omega), hx]⟩, Int.toNat_natCast]
    · rw [if_neg hx, if_neg hx]
      unfold occC at ho
      by_cases hz : M.2.1 261 c = (n : Int)
      · rw [if_neg (fun q => by have q2 := q.2; rw [if_pos (by omega)] at q2; omega), if_neg (fun q => by have := q.1; omega)]
      · rw [if_neg (show ¬ (M.2.1 261 c).toNat = n by omega)]
        by_cases hy : M.2.1 261 c < (n : Int) ∧ M.2.1 262 (M.2.1 261 c).toNat = (c : Int)
        · rw [if_pos ⟨by omega, hy.2⟩, if_pos hy]
        · rw [if_neg (fun q => hy ⟨by omega, q.2⟩), if_neg hy]
set_option maxHeartbeats 4000000 in
theorem c_X6_note {d : Nat} {M : pM} {a b : Int64} {n : Nat} {A B : Nat → Int64} {pr hp : Int} (hS : sOk M.1) (hN : SN M n A B) (hl : 0 ≤ M.2.1 256 7 ∧ M.2.1 256 7 ≤ 4000) : Ct (d + 3) 0 0 yX6_note [.ref 256, .long (a), .long (b), .int (iI pr), .int (iI hp)] M (fun v M2 => (∃ i, i < n ∧ A i = a ∧ B i = b ∧ v = some (.int (iI ((i : Nat) : Int))) ∧ M2 = pI M 256 8 0) ∨ ((¬ ∃ i, i < n ∧ A i = a ∧ B i = b) ∧ M.2.1 256 7 ≤ (n : Int) ∧ v = some (.int (iI (-1))) ∧ M2 = pI M 256 8 1) ∨ ((¬ ∃ i, i < n ∧ A i = a ∧ B i = b) ∧ (n : Int) < M.2.1 256 7 ∧ v = some (.int (iI ((n : Nat) : Int))) ∧ SN M2 (n + 1) (va_up A n a) (va_up B n b) ∧ fr [256, 257, 258, 259, 260, 261, 262] M M2 ∧ M2.2.1 259 = va_up (M.2.1 259) n pr ∧ M2.2.1 260 = va_up (M.2.1 260) n hp ∧ M2.2.1 256 7 = M.2.1 256 7 ∧ M2.2.1 256 8 = 1)) := by
  refine ct_in (d := (d + 2)) kX6_note rfl (by decide) (Nat.le_of_ble_eq_true rfl) (by decide) ?_
  show Go (Ct (d + 2)) _ yX6_note cX6_note (some .int) 0 0 0 [some (.ref 256), some (.long (a)), none, some (.long (b)), none, some (.int (iI pr)), some (.int (iI hp)), none] [] M
  have hN2 := hN
  obtain ⟨s1, s2, s3, s4, s5, s6⟩ := hN
  refine r_aload0 (pc2 := 1) dX6_note_0 rfl ?_
  refine r_lload1 (pc2 := 2) dX6_note_1 rfl ?_
  refine r_lload3 (pc2 := 3) dX6_note_2 rfl ?_
  refine r_cv2 (pc2 := 6) dX6_note_3 rfl vX6_44 (hK_256 hS) (by decide) (c_X6_cellOf (d := d) hS hN2) ?_
  rintro _ M9 ⟨t, ht, rfl, h9, hw, hor⟩
  rw [h9]
  have hcl : (hC a b + t) % 8192 < 8192 := Nat.mod_lt _ (by decide)
  show Go (Ct (d + 2)) _ yX6_note cX6_note (some .int) 0 0 6 [some (.ref 256), some (.long (a)), none, some (.long (b)), none, some (.int (iI pr)), some (.int (iI hp)), none] [.int (iI (((hC a b + t) % 8192 : Nat) : Int))] M
  refine r_istore7 (pc2 := 8) dX6_note_6 rfl rfl ?_
  refine r_aload0 (pc2 := 9) dX6_note_8 rfl ?_
  refine r_aload0 (pc2 := 10) dX6_note_9 rfl ?_
  refine r_iload7 (pc2 := 12) dX6_note_10 rfl ?_
  refine r_cv1 (pc2 := 15) dX6_note_12 rfl vX6_48 (hK_256 hS) (by decide) (c_X6_isTaken (d := d + 1) (c := (hC a b + t) % 8192) hS hcl hN2) ?_
  rintro _ M9 ⟨rfl, h9⟩
  rw [h9]
  show Go (Ct (d + 2)) _ yX6_note cX6_note (some .int) 0 0 15 [some (.ref 256), some (.long (a)), none, some (.long (b)), none, some (.int (iI pr)), some (.int (iI hp)), some (.int (iI (((hC a b + t) % 8192 : Nat) : Int)))] [.int (iI (if occC M n ((hC a b + t) % 8192) = none then 0 else 1)), .ref 256] M
  refine r_ifne (tgt := 22) (pc2 := 18) dX6_note_15 rfl (by decide) ⟨by omega, by omega⟩ (fun b_15 => ?_) (fun b_15 => ?_)
  · refine r_iconst (pc2 := 23) dX6_note_22 rfl ?_
    refine r_putZ (z := 0) (pc2 := 26) dX6_note_23 rfl fX6_52 (w6_8 _) (hK_256 hS) (by decide) (by omega) ?_
    refine r_aload0 (pc2 := 27) dX6_note_26 rfl ?_
    refine r_getI (z := 0) (pc2 := 30) dX6_note_27 rfl (Or.inr fX6_52) (hK_256 hS) rfl ?_
    refine r_ifne (tgt := 41) (pc2 := 33) dX6_note_30 rfl (by decide) ⟨by omega, by omega⟩ (fun h9 => absurd h9 (by decide)) (fun _ => ?_)
    refine r_aload0 (pc2 := 34) dX6_note_33 rfl ?_
    refine r_getR (pc2 := 37) dX6_note_34 rfl fX6_25 (hK_256 hS) (hR_256_4 hS) ?_
    refine r_iload7 (pc2 := 39) dX6_note_37 rfl ?_
    refine r_iald (z := (M.2.1 261 ((hC a b + t) % 8192))) (pc2 := 40) dX6_note_39 rfl (hK_261 hS) ((hC a b + t) % 8192) rfl (by omega) rfl ?_
    refine r_ireti dX6_note_40 rfl ?_
    cases ho : occC M n ((hC a b + t) % 8192) with
    | none => rw [ho, if_pos rfl] at b_15; exact absurd rfl b_15
    | some i =>
      rcases hor with q | ⟨j, q1, q2, q3⟩
      · rw [ho] at q; cases q
      · rw [ho] at q1; cases q1
        obtain ⟨o1, o2⟩ := occC_some ho (s4 _ hcl).1
        exact Or.inl ⟨i, o2, q2, q3, by rw [← o1], rfl⟩
  · refine r_iconst (pc2 := 19) dX6_note_18 rfl ?_
    refine r_goto (tgt := 23) dX6_note_19 (by decide) ?_
    refine r_putZ (z := 1) (pc2 := 26) dX6_note_23 rfl fX6_52 (w6_8 _) (hK_256 hS) (by decide) (by omega) ?_
    refine r_aload0 (pc2 := 27) dX6_note_26 rfl ?_
    refine r_getI (z := 1) (pc2 := 30) dX6_note_27 rfl (Or.inr fX6_52) (hK_256 hS) rfl ?_
    refine r_ifne (tgt := 41) (pc2 := 33) dX6_note_30 rfl (by decide) ⟨by omega, by omega⟩ (fun _ => ?_) (fun h9 => absurd h9 (by decide))
    refine r_aload0 (pc2 := 42) dX6_note_41 rfl ?_
    refine r_getI (z := ((n : Nat) : Int)) (pc2 := 45) dX6_note_42 rfl (Or.inl fX6_31) (hK_256 hS) s1 ?_
    refine r_aload0 (pc2 := 46) dX6_note_45 rfl ?_
    refine r_getI (z := (M.2.1 256 7)) (pc2 := 49) dX6_note_46 rfl (Or.inl fX6_41) (hK_256 hS) rfl ?_
    refine r_iclt (tgt := 54) (pc2 := 52) dX6_note_49 rfl (by decide) ⟨by omega, by omega⟩ ⟨by omega, by omega⟩ (fun b_49 => ?_) (fun b_49 => ?_)
    · refine r_aload0 (pc2 := 55) dX6_note_54 rfl ?_
      refine r_getR (pc2 := 58) dX6_note_55 rfl fX6_11 (hK_256 hS) (hR_256_0 hS) ?_
      refine r_aload0 (pc2 := 59) dX6_note_58 rfl ?_
      refine r_getI (z := ((n : Nat) : Int)) (pc2 := 62) dX6_note_59 rfl (Or.inl fX6_31) (hK_256 hS) s1 ?_
      refine r_lload1 (pc2 := 63) dX6_note_62 rfl ?_
      refine r_last (pc2 := 64) dX6_note_63 rfl (hK_257 hS) (by decide) n rfl (by omega) ?_
      refine r_aload0 (pc2 := 65) dX6_note_64 rfl ?_
      refine r_getR (pc2 := 68) dX6_note_65 rfl fX6_15 (hK_256 hS) (hR_256_1 hS) ?_
      refine r_aload0 (pc2 := 69) dX6_note_68 rfl ?_
      refine r_getI (z := ((n : Nat) : Int)) (pc2 := 72) dX6_note_69 rfl (Or.inl fX6_31) (hK_256 hS) s1 ?_
      refine r_lload3 (pc2 := 73) dX6_note_72 rfl ?_
      refine r_last (pc2 := 74) dX6_note_73 rfl (hK_258 hS) (by decide) n rfl (by omega) ?_
      refine r_aload0 (pc2 := 75) dX6_note_74 rfl ?_
      refine r_getR (pc2 := 78) dX6_note_75 rfl fX6_18 (hK_256 hS) (hR_256_2 hS) ?_
      refine r_aload0 (pc2 := 79) dX6_note_78 rfl ?_
      refine r_getI (z := ((n : Nat) : Int)) (pc2 := 82) dX6_note_79 rfl (Or.inl fX6_31) (hK_256 hS) s1 ?_
      refine r_iload5 (pc2 := 84) dX6_note_82 rfl ?_
      refine r_iast (z := pr) (pc2 := 85) dX6_note_84 rfl (hK_259 hS) (by decide) n rfl (by omega) ?_
      refine r_aload0 (pc2 := 86) dX6_note_85 rfl ?_
      refine r_getR (pc2 := 89) dX6_note_86 rfl fX6_22 (hK_256 hS) (hR_256_3 hS) ?_
      refine r_aload0 (pc2 := 90) dX6_note_89 rfl ?_
      refine r_getI (z := ((n : Nat) : Int)) (pc2 := 93) dX6_note_90 rfl (Or.inl fX6_31) (hK_256 hS) s1 ?_
      refine r_iload6 (pc2 := 95) dX6_note_93 rfl ?_
      refine r_iast (z := hp) (pc2 := 96) dX6_note_95 rfl (hK_260 hS) (by decide) n rfl (by omega) ?_
      refine r_aload0 (pc2 := 97) dX6_note_96 rfl ?_
      refine r_getR (pc2 := 100) dX6_note_97 rfl fX6_28 (hK_256 hS) (hR_256_5 hS) ?_
      refine r_aload0 (pc2 := 101) dX6_note_100 rfl ?_
      refine r_getI (z := ((n : Nat) : Int)) (pc2 := 104) dX6_note_101 rfl (Or.inl fX6_31) (hK_256 hS) s1 ?_
      refine r_iload7 (pc2 := 106) dX6_note_104 rfl ?_
      refine r_iast (z := (((hC a b + t) % 8192 : Nat) : Int)) (pc2 := 107) dX6_note_106 rfl (hK_262 hS) (by decide) n rfl (by omega) ?_
      refine r_aload0 (pc2 := 108) dX6_note_107 rfl ?_
      refine r_getR (pc2 := 111) dX6_note_108 rfl fX6_25 (hK_256 hS) (hR_256_4 hS) ?_
      refine r_iload7 (pc2 := 113) dX6_note_111 rfl ?_
      refine r_aload0 (pc2 := 114) dX6_note_113 rfl ?_
      refine r_getI (z := ((n : Nat) : Int)) (pc2 := 117) dX6_note_114 rfl (Or.inl fX6_31) (hK_256 hS) s1 ?_
      refine r_iast (z := ((n : Nat) : Int)) (pc2 := 118) dX6_note_117 rfl (hK_261 hS) (by decide) ((hC a b + t) % 8192) rfl (by omega) ?_
      refine r_aload0 (pc2 := 119) dX6_note_118 rfl ?_
      refine r_dup (pc2 := 120) dX6_note_119 rfl rfl ?_
      refine r_getI (z := ((n : Nat) : Int)) (pc2 := 123) dX6_note_120 rfl (Or.inl fX6_31) (hK_256 hS) s1 ?_
      refine r_iconst (pc2 := 124) dX6_note_123 rfl ?_
      refine r_iadd (c := (((n : Nat) : Int) + 1)) (pc2 := 125) dX6_note_124 rfl rfl ?_
      refine r_putI (z := (((n : Nat) : Int) + 1)) (pc2 := 128) dX6_note_125 rfl fX6_31 (w6_6 _) (hK_256 hS) (by decide) ?_
      refine r_aload0 (pc2 := 129) dX6_note_128 rfl ?_
      refine r_getI (z := (((n : Nat) : Int) + 1)) (pc2 := 132) dX6_note_129 rfl (Or.inl fX6_31) (hK_256 hS) rfl ?_
      refine r_iconst (pc2 := 133) dX6_note_132 rfl ?_
      refine r_isub (c := ((((n : Nat) : Int) + 1) - 1)) (pc2 := 134) dX6_note_133 rfl rfl ?_
      refine r_ireti dX6_note_134 rfl ?_
      cases ho : occC M n ((hC a b + t) % 8192) with
      | some i => rw [ho, if_neg (by intro q; cases q)] at b_15; exact absurd b_15 (by decide)
      | none =>
        have hno := HW.none s6 hw ho
        refine Or.inr (Or.inr ⟨hno, by omega, ?_, note_SN hN2 ht hw ho (by omega), ?_, ?_, ?_, ?_, ?_⟩)
        · show some (Value.int (iI (((n : Nat) : Int) + 1 - 1))) = _
          rw [show ((n : Nat) : Int) + 1 - 1 = (n : Int) by omega]
        · refine ((((((((fr.rf).I (by decide)).J (by decide)).J (by decide)).I (by decide)).I (by decide)).I (by decide)).I (by decide)).I (by decide)
        · rfl
        · rfl
        · rfl
        · rfl
    · refine r_iconst (pc2 := 53) dX6_note_52 rfl ?_
      refine r_ireti dX6_note_53 rfl ?_
      cases ho : occC M n ((hC a b + t) % 8192) with
      | some i => rw [ho, if_neg (by intro q; cases q)] at b_15; exact absurd b_15 (by decide)
      | none =>
        have hno := HW.none s6 hw ho
        exact Or.inr (Or.inl ⟨hno, by omega, rfl, rfl⟩)
