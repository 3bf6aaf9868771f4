/-! the class's Board.copy -/
section CP
variable {C : pCt} {Q : pQ} {y : MethodName} {cc : ByteArray} {rt : Option FieldType} {kc ks pc pc2 : Nat} {ls : pL} {st : List Value} {M : pM}
theorem r_cpI {idx a b na nb n : Nat} (h : decode cc pc = .ok (.invokestatic idx, 3)) (hp : pc + 3 = pc2) (hc : pCp y.cls idx) (hka : M.1.2.1 a = (2, na)) (hkb : M.1.2.1 b = (2, nb)) (hb : 2 ≤ b) (h1 : n ≤ na) (h2 : n ≤ nb) (hs : pCat st ≤ 8)
    (g : ∀ M2 : pM, fr [b] M M2 → (∀ i, i < n → M2.2.1 b i = M.2.1 a i) → (∀ i, n ≤ i → M2.2.1 b i = M.2.1 b i) → Go C Q y cc rt kc ks pc2 ls st M2) : Go C Q y cc rt kc ks pc ls (.int (iI ((n : Nat) : Int)) :: .int (iI 0) :: .ref b :: .int (iI 0) :: .ref a :: st) M := by
  subst hp
  refine go_cpI (sp := 0) (dp := 0) h hka hkb hc hb rfl rfl rfl (by omega) (by omega) hs (g _ ⟨rfl, fun c hc => ⟨?_, rfl⟩⟩ (fun i hi => ?_) (fun i hi => ?_))
  · show (if c = b then _ else _) = _
    rw [if_neg (by simpa using hc)]
  · show (if b = b then va_cpy (M.2.1 a) (M.2.1 b) 0 0 n else _) i = _
    rw [if_pos rfl, va_cpy, if_pos (by omega), show 0 + (i - 0) = i by omega]
  · show (if b = b then va_cpy (M.2.1 a) (M.2.1 b) 0 0 n else _) i = _
    rw [if_pos rfl, va_cpy, if_neg (by omega)]
theorem r_cpJ {idx a b na nb n : Nat} (h : decode cc pc = .ok (.invokestatic idx, 3)) (hp : pc + 3 = pc2) (hc : pCp y.cls idx) (hka : M.1.2.1 a = (3, na)) (hkb : M.1.2.1 b = (3, nb)) (hb : 2 ≤ b) (h1 : n ≤ na) (h2 : n ≤ nb) (hs : pCat st ≤ 8)
    (g : ∀ M2 : pM, fr [b] M M2 → (∀ i, i < n → M2.2.2 b i = M.2.2 a i) → (∀ i, n ≤ i → M2.2.2 b i = M.2.2 b i) → Go C Q y cc rt kc ks pc2 ls st M2) : Go C Q y cc rt kc ks pc ls (.int (iI ((n : Nat) : Int)) :: .int (iI 0) :: .ref b :: .int (iI 0) :: .ref a :: st) M := by
  subst hp
  refine go_cpJ (sp := 0) (dp := 0) h hka hkb hc hb rfl rfl rfl (by omega) (by omega) hs (g _ ⟨rfl, fun c hc => ⟨rfl, ?_⟩⟩ (fun i hi => ?_) (fun i hi => ?_))
  · show (if c = b then _ else _) = _
    rw [if_neg (by simpa using hc)]
  · show (if b = b then va_cpy (M.2.2 a) (M.2.2 b) 0 0 n else _) i = _
    rw [if_pos rfl, va_cpy, if_pos (by omega), show 0 + (i - 0) = i by omega]
  · show (if b = b then va_cpy (M.2.2 a) (M.2.2 b) 0 0 n else _) i = _
    rw [if_pos rfl, va_cpy, if_neg (by omega)]
end CP
theorem isB_far {a b : Nat} (ha : isB a) (hb : isB b) (h : a ≠ b) : a + 9 < b ∨ b + 9 < a := by
  have key : ∀ x ∈ ([19, 42, 52, 62, 72, 82, 92, 102, 112, 122, 132, 142, 152, 162, 172, 182, 192, 202, 212, 222, 232, 242, 277, 287, 297, 307] : List Nat), ∀ z ∈ ([19, 42, 52, 62, 72, 82, 92, 102, 112, 122, 132, 142, 152, 162, 172, 182, 192, 202, 212, 222, 232, 242, 277, 287, 297, 307] : List Nat), x ≠ z → x + 9 < z ∨ z + 9 < x := by decide +kernel
  exact key a ha b hb h
/-- the cells of a board -/
def bcl (t : Nat) : List Nat := [t, t + 1, t + 2, t + 3, t + 4, t + 5, t + 6, t + 7, t + 8, t + 9]
theorem bcl_not {a t : Nat} (h : a < t ∨ t + 9 < a) : a ∉ bcl t := by unfold bcl; simp only [List.mem_cons, List.not_mem_nil, or_false]; omega
/-- board t is board s now -/
def cCp (M M2 : pM) (s t : Nat) : Prop := fr (bcl t) M M2 ∧ (∀ i, i < 156 → M2.2.1 (t + 1) i = M.2.1 (s + 1) i ∧ M2.2.1 (t + 2) i = M.2.1 (s + 2) i ∧ M2.2.1 (t + 3) i = M.2.1 (s + 3) i ∧ M2.2.1 (t + 4) i = M.2.1 (s + 4) i ∧ M2.2.2 (t + 5) i = M.2.2 (s + 5) i) ∧ (∀ i, i < 13 → M2.2.1 (t + 6) i = M.2.1 (s + 6) i) ∧ (∀ i, i < 4 → M2.2.1 (t + 7) i = M.2.1 (s + 7) i ∧ M2.2.1 (t + 8) i = M.2.1 (s + 8) i ∧ M2.2.1 (t + 9) i = M.2.1 (s + 9) i) ∧ M2.2.1 t 9 = M.2.1 s 9 ∧ M2.2.1 t 10 = M.2.1 s 10 ∧ M2.2.2 t 11 = M.2.2 s 11
set_option maxHeartbeats 4000000 in
theorem c_X0_copy {d : Nat} {M : pM} {s t : Nat} (hS : sOk M.1) (hb_s : isB s) (hb_t : isB t) (hst : s ≠ t) : Ct (d + 1) 0 0 yX0_copy [.ref (t), .ref (s)] M (fun v M2 => v = none ∧ cCp M M2 s t) := by
  refine ct_in (d := d) kX0_copy rfl (by decide) (Nat.le_of_ble_eq_true rfl) (by decide) ?_
  show Go (Ct d) _ yX0_copy cX0_copy none 0 0 0 [some (.ref (t)), some (.ref (s))] [] M
  refine r_aload1 (pc2 := 1) dX0_copy_0 rfl ?_
  refine r_getR (pc2 := 4) dX0_copy_1 rfl fX0_9 (hKb hS hb_s) (hRb0 hS hb_s) ?_
  refine r_iconst (pc2 := 5) dX0_copy_4 rfl ?_
  refine r_aload0 (pc2 := 6) dX0_copy_5 rfl ?_
  refine r_getR (pc2 := 9) dX0_copy_6 rfl fX0_9 (hKb hS hb_t) (hRb0 hS hb_t) ?_
  refine r_iconst (pc2 := 10) dX0_copy_9 rfl ?_
  refine r_sipush (pc2 := 13) dX0_copy_10 rfl (by decide) (by decide) ?_
  refine r_cpI (n := 156) (pc2 := 16) dX0_copy_13 rfl cpX0_46 (hKb1 hS hb_s) (hKb1 hS hb_t) (Nat.le_trans (isB_ge hb_t) (Nat.le_add_right _ _)) (by decide) (by decide) (by decide) (fun M1 hf1 hc1 _ => ?_)
  have gf1 : fr (bcl t) M M1 := (fr.rf).tr (hf1.mono (by intro z hz; simp only [List.mem_singleton] at hz; subst hz; simp [bcl]))
  refine r_aload1 (pc2 := 17) dX0_copy_16 rfl ?_
  refine r_getR (pc2 := 20) dX0_copy_17 rfl fX0_15 (hKb (gf1.ok hS) hb_s) (hRb1 (gf1.ok hS) hb_s) ?_
  refine r_iconst (pc2 := 21) dX0_copy_20 rfl ?_
  refine r_aload0 (pc2 := 22) dX0_copy_21 rfl ?_
  refine r_getR (pc2 := 25) dX0_copy_22 rfl fX0_15 (hKb (gf1.ok hS) hb_t) (hRb1 (gf1.ok hS) hb_t) ?_
  refine r_iconst (pc2 := 26) dX0_copy_25 rfl ?_
  refine r_sipush (pc2 := 29) dX0_copy_26 rfl (by decide) (by decide) ?_
  refine r_cpI (n := 156) (pc2 := 32) dX0_copy_29 rfl cpX0_46 (hKb2 (gf1.ok hS) hb_s) (hKb2 (gf1.ok hS) hb_t) (Nat.le_trans (isB_ge hb_t) (Nat.le_add_right _ _)) (by decide) (by decide) (by decide) (fun M2 hf2 hc2 _ => ?_)
  have gf2 : fr (bcl t) M M2 := (gf1).tr (hf2.mono (by intro z hz; simp only [List.mem_singleton] at hz; subst hz; simp [bcl]))
  refine r_aload1 (pc2 := 33) dX0_copy_32 rfl ?_
  refine r_getR (pc2 := 36) dX0_copy_33 rfl fX0_18 (hKb (gf2.ok hS) hb_s) (hRb2 (gf2.ok hS) hb_s) ?_
  refine r_iconst (pc2 := 37) dX0_copy_36 rfl ?_
  refine r_aload0 (pc2 := 38) dX0_copy_37 rfl ?_
  refine r_getR (pc2 := 41) dX0_copy_38 rfl fX0_18 (hKb (gf2.ok hS) hb_t) (hRb2 (gf2.ok hS) hb_t) ?_
  refine r_iconst (pc2 := 42) dX0_copy_41 rfl ?_
  refine r_sipush (pc2 := 45) dX0_copy_42 rfl (by decide) (by decide) ?_
  refine r_cpI (n := 156) (pc2 := 48) dX0_copy_45 rfl cpX0_46 (hKb3 (gf2.ok hS) hb_s) (hKb3 (gf2.ok hS) hb_t) (Nat.le_trans (isB_ge hb_t) (Nat.le_add_right _ _)) (by decide) (by decide) (by decide) (fun M3 hf3 hc3 _ => ?_)
  have gf3 : fr (bcl t) M M3 := (gf2).tr (hf3.mono (by intro z hz; simp only [List.mem_singleton] at hz; subst hz; simp [bcl]))
  refine r_aload1 (pc2 := 49) dX0_copy_48 rfl ?_
  refine r_getR (pc2 := 52) dX0_copy_49 rfl fX0_21 (hKb (gf3.ok hS) hb_s) (hRb3 (gf3.ok hS) hb_s) ?_
  refine r_iconst (pc2 := 53) dX0_copy_52 rfl ?_
  refine r_aload0 (pc2 := 54) dX0_copy_53 rfl ?_
  refine r_getR (pc2 := 57) dX0_copy_54 rfl fX0_21 (hKb (gf3.ok hS) hb_t) (hRb3 (gf3.ok hS) hb_t) ?_
  refine r_iconst (pc2 := 58) dX0_copy_57 rfl ?_
  refine r_sipush (pc2 := 61) dX0_copy_58 rfl (by decide) (by decide) ?_
  refine r_cpI (n := 156) (pc2 := 64) dX0_copy_61 rfl cpX0_46 (hKb4 (gf3.ok hS) hb_s) (hKb4 (gf3.ok hS) hb_t) (Nat.le_trans (isB_ge hb_t) (Nat.le_add_right _ _)) (by decide) (by decide) (by decide) (fun M4 hf4 hc4 _ => ?_)
  have gf4 : fr (bcl t) M M4 := (gf3).tr (hf4.mono (by intro z hz; simp only [List.mem_singleton] at hz; subst hz; simp [bcl]))
  refine r_aload1 (pc2 := 65) dX0_copy_64 rfl ?_
  refine r_getR (pc2 := 68) dX0_copy_65 rfl fX0_24 (hKb (gf4.ok hS) hb_s) (hRb4 (gf4.ok hS) hb_s) ?_
  refine r_iconst (pc2 := 69) dX0_copy_68 rfl ?_
  refine r_aload0 (pc2 := 70) dX0_copy_69 rfl ?_
  refine r_getR (pc2 := 73) dX0_copy_70 rfl fX0_24 (hKb (gf4.ok hS) hb_t) (hRb4 (gf4.ok hS) hb_t) ?_
  refine r_iconst (pc2 := 74) dX0_copy_73 rfl ?_
  refine r_sipush (pc2 := 77) dX0_copy_74 rfl (by decide) (by decide) ?_
  refine r_cpJ (n := 156) (pc2 := 80) dX0_copy_77 rfl cpX0_46 (hKb5 (gf4.ok hS) hb_s) (hKb5 (gf4.ok hS) hb_t) (Nat.le_trans (isB_ge hb_t) (Nat.le_add_right _ _)) (by decide) (by decide) (by decide) (fun M5 hf5 hc5 _ => ?_)
  have gf5 : fr (bcl t) M M5 := (gf4).tr (hf5.mono (by intro z hz; simp only [List.mem_singleton] at hz; subst hz; simp [bcl]))
  refine r_aload1 (pc2 := 81) dX0_copy_80 rfl ?_
  refine r_getR (pc2 := 84) dX0_copy_81 rfl fX0_28 (hKb (gf5.ok hS) hb_s) (hRb5 (gf5.ok hS) hb_s) ?_
  refine r_iconst (pc2 := 85) dX0_copy_84 rfl ?_
  refine r_aload0 (pc2 := 86) dX0_copy_85 rfl ?_
  refine r_getR (pc2 := 89) dX0_copy_86 rfl fX0_28 (hKb (gf5.ok hS) hb_t) (hRb5 (gf5.ok hS) hb_t) ?_
  refine r_iconst (pc2 := 90) dX0_copy_89 rfl ?_
  refine r_bipush (pc2 := 92) dX0_copy_90 rfl (by decide) (by decide) ?_
  refine r_cpI (n := 13) (pc2 := 95) dX0_copy_92 rfl cpX0_46 (hKb6 (gf5.ok hS) hb_s) (hKb6 (gf5.ok hS) hb_t) (Nat.le_trans (isB_ge hb_t) (Nat.le_add_right _ _)) (by decide) (by decide) (by decide) (fun M6 hf6 hc6 _ => ?_)
  have gf6 : fr (bcl t) M M6 := (gf5).tr (hf6.mono (by intro z hz; simp only [List.mem_singleton] at hz; subst hz; simp [bcl]))
  refine r_aload1 (pc2 := 96) dX0_copy_95 rfl ?_
  refine r_getR (pc2 := 99) dX0_copy_96 rfl fX0_31 (hKb (gf6.ok hS) hb_s) (hRb6 (gf6.ok hS) hb_s) ?_
  refine r_iconst (pc2 := 100) dX0_copy_99 rfl ?_
  refine r_aload0 (pc2 := 101) dX0_copy_100 rfl ?_
  refine r_getR (pc2 := 104) dX0_copy_101 rfl fX0_31 (hKb (gf6.ok hS) hb_t) (hRb6 (gf6.ok hS) hb_t) ?_
  refine r_iconst (pc2 := 105) dX0_copy_104 rfl ?_
  refine r_iconst (pc2 := 106) dX0_copy_105 rfl ?_
  refine r_cpI (n := 4) (pc2 := 109) dX0_copy_106 rfl cpX0_46 (hKb7 (gf6.ok hS) hb_s) (hKb7 (gf6.ok hS) hb_t) (Nat.le_trans (isB_ge hb_t) (Nat.le_add_right _ _)) (by decide) (by decide) (by decide) (fun M7 hf7 hc7 _ => ?_)
  have gf7 : fr (bcl t) M M7 := (gf6).tr (hf7.mono (by intro z hz; simp only [List.mem_singleton] at hz; subst hz; simp [bcl]))
  refine r_aload1 (pc2 := 110) dX0_copy_109 rfl ?_
  refine r_getR (pc2 := 113) dX0_copy_110 rfl fX0_34 (hKb (gf7.ok hS) hb_s) (hRb7 (gf7.ok hS) hb_s) ?_
  refine r_iconst (pc2 := 114) dX0_copy_113 rfl ?_
  refine r_aload0 (pc2 := 115) dX0_copy_114 rfl ?_
  refine r_getR (pc2 := 118) dX0_copy_115 rfl fX0_34 (hKb (gf7.ok hS) hb_t) (hRb7 (gf7.ok hS) hb_t) ?_
  refine r_iconst (pc2 := 119) dX0_copy_118 rfl ?_
  refine r_iconst (pc2 := 120) dX0_copy_119 rfl ?_
  refine r_cpI (n := 4) (pc2 := 123) dX0_copy_120 rfl cpX0_46 (hKb8 (gf7.ok hS) hb_s) (hKb8 (gf7.ok hS) hb_t) (Nat.le_trans (isB_ge hb_t) (Nat.le_add_right _ _)) (by decide) (by decide) (by decide) (fun M8 hf8 hc8 _ => ?_)
  have gf8 : fr (bcl t) M M8 := (gf7).tr (hf8.mono (by intro z hz; simp only [List.mem_singleton] at hz; subst hz; simp [bcl]))
  refine r_aload1 (pc2 := 124) dX0_copy_123 rfl ?_
  refine r_getR (pc2 := 127) dX0_copy_124 rfl fX0_37 (hKb (gf8.ok hS) hb_s) (hRb8 (gf8.ok hS) hb_s) ?_
  refine r_iconst (pc2 := 128) dX0_copy_127 rfl ?_
  refine r_aload0 (pc2 := 129) dX0_copy_128 rfl ?_
  refine r_getR (pc2 := 132) dX0_copy_129 rfl fX0_37 (hKb (gf8.ok hS) hb_t) (hRb8 (gf8.ok hS) hb_t) ?_
  refine r_iconst (pc2 := 133) dX0_copy_132 rfl ?_
  refine r_iconst (pc2 := 134) dX0_copy_133 rfl ?_
  refine r_cpI (n := 4) (pc2 := 137) dX0_copy_134 rfl cpX0_46 (hKb9 (gf8.ok hS) hb_s) (hKb9 (gf8.ok hS) hb_t) (Nat.le_trans (isB_ge hb_t) (Nat.le_add_right _ _)) (by decide) (by decide) (by decide) (fun M9 hf9 hc9 _ => ?_)
  have gf9 : fr (bcl t) M M9 := (gf8).tr (hf9.mono (by intro z hz; simp only [List.mem_singleton] at hz; subst hz; simp [bcl]))
  refine r_aload0 (pc2 := 138) dX0_copy_137 rfl ?_
  refine r_aload1 (pc2 := 139) dX0_copy_138 rfl ?_
  refine r_getI (z := (M9.2.1 s 9)) (pc2 := 142) dX0_copy_139 rfl (Or.inl fX0_52) (hKb (gf9.ok hS) hb_s) rfl ?_
  refine r_putI (z := (M9.2.1 s 9)) (pc2 := 145) dX0_copy_142 rfl fX0_52 (w0_9 _) (hKb (gf9.ok hS) hb_t) (isB_ge hb_t) ?_
  refine r_aload0 (pc2 := 146) dX0_copy_145 rfl ?_
  refine r_aload1 (pc2 := 147) dX0_copy_146 rfl ?_
  refine r_getI (z := (M9.2.1 s 10)) (pc2 := 150) dX0_copy_147 rfl (Or.inl fX0_56) (hKb (gf9.ok hS) hb_s) (by rw [pI_ne (by omega)]) ?_
  refine r_putI (z := (M9.2.1 s 10)) (pc2 := 153) dX0_copy_150 rfl fX0_56 (w0_10 _) (hKb (gf9.ok hS) hb_t) (isB_ge hb_t) ?_
  refine r_aload0 (pc2 := 154) dX0_copy_153 rfl ?_
  refine r_aload1 (pc2 := 155) dX0_copy_154 rfl ?_
  refine r_getJ (z := (M9.2.2 s 11)) (pc2 := 158) dX0_copy_155 rfl fX0_59 (hKb (gf9.ok hS) hb_s) rfl ?_
  refine r_putJ (pc2 := 161) dX0_copy_158 rfl fX0_59 (w0_11 _) (hKb (gf9.ok hS) hb_t) (isB_ge hb_t) ?_
  refine r_ret dX0_copy_161 rfl ?_
  have hfar := isB_far hb_s hb_t hst
  have v1 : ∀ i, i < 156 → M9.2.1 (t + 1) i = M.2.1 (s + 1) i := fun i hi => by rw [hf9.i (by simp), hf8.i (by simp), hf7.i (by simp), hf6.i (by simp), hf5.i (by simp), hf4.i (by simp), hf3.i (by simp), hf2.i (by simp), hc1 i hi]
  have v2 : ∀ i, i < 156 → M9.2.1 (t + 2) i = M.2.1 (s + 2) i := fun i hi => by rw [hf9.i (by simp), hf8.i (by simp), hf7.i (by simp), hf6.i (by simp), hf5.i (by simp), hf4.i (by simp), hf3.i (by simp), hc2 i hi, gf1.i (bcl_not (by omega))]
  have v3 : ∀ i, i < 156 → M9.2.1 (t + 3) i = M.2.1 (s + 3) i := fun i hi => by rw [hf9.i (by simp), hf8.i (by simp), hf7.i (by simp), hf6.i (by simp), hf5.i (by simp), hf4.i (by simp), hc3 i hi, gf2.i (bcl_not (by omega))]
  have v4 : ∀ i, i < 156 → M9.2.1 (t + 4) i = M.2.1 (s + 4) i := fun i hi => by rw [hf9.i (by simp), hf8.i (by simp), hf7.i (by simp), hf6.i (by simp), hf5.i (by simp), hc4 i hi, gf3.i (bcl_not (by omega))]
  have v5 : ∀ i, i < 156 → M9.2.2 (t + 5) i = M.2.2 (s + 5) i := fun i hi => by rw [hf9.j (by simp), hf8.j (by simp), hf7.j (by simp), hf6.j (by simp), hc5 i hi, gf4.j (bcl_not (by omega))]
  have v6 : ∀ i, i < 13 → M9.2.1 (t + 6) i = M.2.1 (s + 6) i := fun i hi => by rw [hf9.i (by simp), hf8.i (by simp), hf7.i (by simp), hc6 i hi, gf5.i (bcl_not (by omega))]
  have v7 : ∀ i, i < 4 → M9.2.1 (t + 7) i = M.2.1 (s + 7) i := fun i hi => by rw [hf9.i (by simp), hf8.i (by simp), hc7 i hi, gf6.i (bcl_not (by omega))]
  have v8 : ∀ i, i < 4 → M9.2.1 (t + 8) i = M.2.1 (s + 8) i := fun i hi => by rw [hf9.i (by simp), hc8 i hi, gf7.i (bcl_not (by omega))]
  have v9 : ∀ i, i < 4 → M9.2.1 (t + 9) i = M.2.1 (s + 9) i := fun i hi => by rw [hc9 i hi, gf8.i (bcl_not (by omega))]
  have u9 : M9.2.1 s = M.2.1 s := gf9.i (bcl_not (by omega))
  have w9 : M9.2.2 s = M.2.2 s := gf9.j (bcl_not (by omega))
  refine ⟨rfl, ((gf9.I (by simp [bcl])).I (by simp [bcl])).J (by simp [bcl]), fun i hi => ⟨?_, ?_, ?_, ?_, ?_⟩, fun i hi => ?_, fun i hi => ⟨?_, ?_, ?_⟩, ?_, ?_, ?_⟩
  · rw [pJ_i, pI_ne (by omega), pI_ne (by omega)]; exact v1 i hi
  · rw [pJ_i, pI_ne (by omega), pI_ne (by omega)]; exact v2 i hi
  · rw [pJ_i, pI_ne (by omega), pI_ne (by omega)]; exact v3 i hi
  · rw [pJ_i, pI_ne (by omega), pI_ne (by omega)]; exact v4 i hi
  · rw [pJ_ne (by omega)]; exact v5 i hi
  · rw [pJ_i, pI_ne (by omega), pI_ne (by omega)]; exact v6 i hi
  · rw [pJ_i, pI_ne (by omega), pI_ne (by omega)]; exact v7 i hi
  · rw [pJ_i, pI_ne (by omega), pI_ne (by omega)]; exact v8 i hi
  · rw [pJ_i, pI_ne (by omega), pI_ne (by omega)]; exact v9 i hi
  · rw [pJ_i, pI_nk (by decide), pI_at, u9]
  · rw [pJ_i, pI_at, u9]
  · rw [pJ_at, w9]
