/-! a board is made -/
theorem bO_b {b i : Nat} (hb : isB b) (hi : i < 10) : bO (b + i) = i := by
  have h : ∀ b ∈ ([19, 42, 52, 62, 72, 82, 92, 102, 112, 122, 132, 142, 152, 162, 172, 182, 192, 202, 212, 222, 232, 242, 277, 287, 297, 307] : List Nat), ∀ i, i < 10 → bO (b + i) = i := by decide +kernel
  exact h b hb i hi
def ndB : List (Nat × Nat × Nat) := [(2, 156, 0), (2, 156, 1), (2, 156, 2), (2, 156, 3), (3, 156, 4), (2, 13, 5), (2, 4, 6), (2, 4, 7), (2, 4, 8)]
theorem k0_b {b : Nat} (hb : isB b) : ndB.map (fun x => (x.1, x.2.1)) = (List.range 9).map (fun i => k0 (b + 1 + i)) := by
  have h : ∀ b ∈ ([19, 42, 52, 62, 72, 82, 92, 102, 112, 122, 132, 142, 152, 162, 172, 182, 192, 202, 212, 222, 232, 242, 277, 287, 297, 307] : List Nat), ndB.map (fun x => (x.1, x.2.1)) = (List.range 9).map (fun i => k0 (b + 1 + i)) := by decide +kernel
  exact h b hb
theorem r0_b {b j : Nat} (hb : isB b) : r0 b j = if j < 9 then some (b + 1 + j) else none := by
  have h : ∀ b ∈ ([19, 42, 52, 62, 72, 82, 92, 102, 112, 122, 132, 142, 152, 162, 172, 182, 192, 202, 212, 222, 232, 242, 277, 287, 297, 307] : List Nat), b ∉ ([2, 3, 9, 29, 40, 41, 252, 254, 256, 264, 266, 270, 317] : List Nat) := by decide +kernel
  have h9 := h b hb
  unfold r0
  split <;> first | exact absurd (by decide) h9 | skip
  by_cases c : j < 9
  · rw [if_pos ⟨hb, c⟩, if_pos c]
  · rw [if_neg (fun q => c q.2), if_neg c]
theorem rZ_b {b i : Nat} (hb : isB b) (h1 : 1 ≤ i) (h2 : i ≤ 9) : b + i ∉ rZ := by
  have h : ∀ b ∈ ([19, 42, 52, 62, 72, 82, 92, 102, 112, 122, 132, 142, 152, 162, 172, 182, 192, 202, 212, 222, 232, 242, 277, 287, 297, 307] : List Nat), ∀ i, i < 10 → 1 ≤ i → b + i ∉ rZ := by decide +kernel
  exact h b hb i (by omega) h1
theorem zB_n {b i : Nat} (hb : isB b) (hi : i < 10) : b + i ≠ 263 ∧ b + i ≠ 270 ∧ b + i ≠ 331 ∧ b + i ≠ 332 ∧ b + i ≠ 333 := by
  have h : ∀ b ∈ ([19, 42, 52, 62, 72, 82, 92, 102, 112, 122, 132, 142, 152, 162, 172, 182, 192, 202, 212, 222, 232, 242, 277, 287, 297, 307] : List Nat), ∀ i, i < 10 → b + i ≠ 263 ∧ b + i ≠ 270 ∧ b + i ≠ 331 ∧ b + i ≠ 332 ∧ b + i ≠ 333 := by decide +kernel
  exact h b hb i hi
theorem z0_b {b i j : Nat} (hb : isB b) (hi : i < 10) : z0 (b + i) j = if i = 4 ∧ j < 156 then -1 else if i = 6 ∧ j < 13 then -1 else if i = 7 ∧ j < 4 then 3 * (j : Int) + 1 else if i = 8 ∧ j < 4 then (j : Int) else 0 := by
  have h9 := zB_n hb hi
  unfold z0
  rw [bO_b hb hi, if_neg (c := (b + i = 263 ∧ j = 0) ∨ (b + i = 270 ∧ j = 8) ∨ (b + i = 331 ∧ j < 13)) (by omega), if_neg (c := b + i = 332 ∧ j < 4) (by omega), if_neg (c := b + i = 333 ∧ j < 4) (by omega)]
set_option maxHeartbeats 4000000 in
theorem c_X0_init {d : Nat} {M : pM} {b : Nat} (hb : isB b) (hf : FR M b 0) : Ct (d + 2) 9 805 yX0_init [.ref b] M (fun v M2 => v = none ∧ GW M M2 b (b + 10)) := by
  refine ct_in (d := d + 1) kX0_init rfl (by decide) (Nat.le_of_ble_eq_true rfl) (by decide) ?_
  show Go (Ct (d + 1)) _ yX0_init cX0_init none 9 805 0 [some (.ref b), none] [] M
  have kk0 := hf.2.1
  have l0 : b < M.1.1 := by rw [hf.1]; omega
  refine r_aload0 (pc2 := 1) dX0_init_0 rfl ?_
  refine go_oini dX0_init_1 oX0_3 (by decide) ?_
  refine r_aload0 (pc2 := 5) dX0_init_4 rfl ?_
  refine r_sipush (pc2 := 8) dX0_init_5 rfl (by decide) (by decide) ?_
  refine r_nap (t := 2) (n := 156) (kc := 8) (ks := 649) (pc1 := 10) (pc2 := 13) dX0_init_8 rfl (Or.inl ⟨rfl, rfl⟩) rfl (by decide) dX0_init_10 rfl fX0_9 (wf0_0 rfl rfl) kk0 (isB_ge hb) l0 (fun M1 e1 k1 l1 => ?_)
  refine r_aload0 (pc2 := 14) dX0_init_13 rfl ?_
  refine r_sipush (pc2 := 17) dX0_init_14 rfl (by decide) (by decide) ?_
  refine r_nap (t := 2) (n := 156) (kc := 7) (ks := 493) (pc1 := 19) (pc2 := 22) dX0_init_17 rfl (Or.inl ⟨rfl, rfl⟩) rfl (by decide) dX0_init_19 rfl fX0_15 (wf0_1 rfl rfl) k1 (isB_ge hb) l1 (fun M2 e2 k2 l2 => ?_)
  refine r_aload0 (pc2 := 23) dX0_init_22 rfl ?_
  refine r_sipush (pc2 := 26) dX0_init_23 rfl (by decide) (by decide) ?_
  refine r_nap (t := 2) (n := 156) (kc := 6) (ks := 337) (pc1 := 28) (pc2 := 31) dX0_init_26 rfl (Or.inl ⟨rfl, rfl⟩) rfl (by decide) dX0_init_28 rfl fX0_18 (wf0_2 rfl rfl) k2 (isB_ge hb) l2 (fun M3 e3 k3 l3 => ?_)
  refine r_aload0 (pc2 := 32) dX0_init_31 rfl ?_
  refine r_sipush (pc2 := 35) dX0_init_32 rfl (by decide) (by decide) ?_
  refine r_nap (t := 2) (n := 156) (kc := 5) (ks := 181) (pc1 := 37) (pc2 := 40) dX0_init_35 rfl (Or.inl ⟨rfl, rfl⟩) rfl (by decide) dX0_init_37 rfl fX0_21 (wf0_3 rfl rfl) k3 (isB_ge hb) l3 (fun M4 e4 k4 l4 => ?_)
  refine r_aload0 (pc2 := 41) dX0_init_40 rfl ?_
  refine r_sipush (pc2 := 44) dX0_init_41 rfl (by decide) (by decide) ?_
  refine r_nap (t := 3) (n := 156) (kc := 4) (ks := 25) (pc1 := 46) (pc2 := 49) dX0_init_44 rfl (Or.inr (Or.inl ⟨rfl, rfl⟩)) rfl (by decide) dX0_init_46 rfl fX0_24 (wf0_4 rfl rfl) k4 (isB_ge hb) l4 (fun M5 e5 k5 l5 => ?_)
  refine r_aload0 (pc2 := 50) dX0_init_49 rfl ?_
  refine r_bipush (pc2 := 52) dX0_init_50 rfl (by decide) (by decide) ?_
  refine r_nap (t := 2) (n := 13) (kc := 3) (ks := 12) (pc1 := 54) (pc2 := 57) dX0_init_52 rfl (Or.inl ⟨rfl, rfl⟩) rfl (by decide) dX0_init_54 rfl fX0_28 (wf0_5 rfl rfl) k5 (isB_ge hb) l5 (fun M6 e6 k6 l6 => ?_)
  refine r_aload0 (pc2 := 58) dX0_init_57 rfl ?_
  refine r_iconst (pc2 := 59) dX0_init_58 rfl ?_
  refine r_nap (t := 2) (n := 4) (kc := 2) (ks := 8) (pc1 := 61) (pc2 := 64) dX0_init_59 rfl (Or.inl ⟨rfl, rfl⟩) rfl (by decide) dX0_init_61 rfl fX0_31 (wf0_6 rfl rfl) k6 (isB_ge hb) l6 (fun M7 e7 k7 l7 => ?_)
  refine r_aload0 (pc2 := 65) dX0_init_64 rfl ?_
  refine r_iconst (pc2 := 66) dX0_init_65 rfl ?_
  refine r_nap (t := 2) (n := 4) (kc := 1) (ks := 4) (pc1 := 68) (pc2 := 71) dX0_init_66 rfl (Or.inl ⟨rfl, rfl⟩) rfl (by decide) dX0_init_68 rfl fX0_34 (wf0_7 rfl rfl) k7 (isB_ge hb) l7 (fun M8 e8 k8 l8 => ?_)
  refine r_aload0 (pc2 := 72) dX0_init_71 rfl ?_
  refine r_iconst (pc2 := 73) dX0_init_72 rfl ?_
  refine r_nap (t := 2) (n := 4) (kc := 0) (ks := 0) (pc1 := 75) (pc2 := 78) dX0_init_73 rfl (Or.inl ⟨rfl, rfl⟩) rfl (by decide) dX0_init_75 rfl fX0_37 (wf0_8 rfl rfl) k8 (isB_ge hb) l8 (fun M9 e9 k9 l9 => ?_)
  have eN : M9 = nd b M ndB := by rw [e9, e8, e7, e6, e5, e4, e3, e2, e1]; rfl
  obtain ⟨h1, h2, h3, h4, h5, h6⟩ := nd_spec (a := b) ndB M l0
  rw [← eN, hf.1] at h1 h2 h3 h4 h5 h6
  have hrA : ∀ j, M9.1.2.2 b j = if j < 9 then some (b + 1 + j) else none := fun j => by
    rw [h5, hf.2.2.1]
    match j with
    | 0 => rfl
    | 1 => rfl
    | 2 => rfl
    | 3 => rfl
    | 4 => rfl
    | 5 => rfl
    | 6 => rfl
    | 7 => rfl
    | 8 => rfl
    | j + 9 => simp only [ndr, ndB]; rw [up_ne (by omega), up_ne (by omega), up_ne (by omega), up_ne (by omega), up_ne (by omega), up_ne (by omega), up_ne (by omega), up_ne (by omega), up_ne (by omega)]; rfl
  have q4 : M9.1.2.1 (b + 1 + 3) = (2, 156) := (h6 3 _ rfl).1
  have p4 : M9.1.2.2 b 3 = some (b + 1 + 3) := by rw [hrA, if_pos (by decide)]
  have q6 : M9.1.2.1 (b + 1 + 5) = (2, 13) := (h6 5 _ rfl).1
  have p6 : M9.1.2.2 b 5 = some (b + 1 + 5) := by rw [hrA, if_pos (by decide)]
  have q7 : M9.1.2.1 (b + 1 + 6) = (2, 4) := (h6 6 _ rfl).1
  have p7 : M9.1.2.2 b 6 = some (b + 1 + 6) := by rw [hrA, if_pos (by decide)]
  have q8 : M9.1.2.1 (b + 1 + 7) = (2, 4) := (h6 7 _ rfl).1
  have p8 : M9.1.2.2 b 7 = some (b + 1 + 7) := by rw [hrA, if_pos (by decide)]
  have hb2 := isB_ge hb
  refine r_aload0 (pc2 := 79) dX0_init_78 rfl ?_
  refine r_getR (pc2 := 82) dX0_init_79 rfl fX0_21 k9 p4 ?_
  refine r_iconst (pc2 := 83) dX0_init_82 rfl ?_
  refine r_cs2 (pc2 := 86) dX0_init_83 rfl sX0_40 (by decide) (c_fill (d := d) (aa := b + 1 + 3) (n := 156) (z := -1) q4 (by omega) (by decide)) ?_
  rintro _ F1 ⟨rfl, f1, g1, g1b⟩
  have s1 : F1.1 = M9.1 := f1.1
  refine r_aload0 (pc2 := 87) dX0_init_86 rfl ?_
  refine r_getR (pc2 := 90) dX0_init_87 rfl fX0_28 (by rw [s1]; exact k9) (by rw [s1]; exact p6) ?_
  refine r_iconst (pc2 := 91) dX0_init_90 rfl ?_
  refine r_cs2 (pc2 := 94) dX0_init_91 rfl sX0_40 (by decide) (c_fill (d := d) (aa := b + 1 + 5) (n := 13) (z := -1) (by rw [s1]; exact q6) (by omega) (by decide)) ?_
  rintro _ F2 ⟨rfl, f2, g2, g2b⟩
  have s2 : F2.1 = M9.1 := f2.1.trans s1
  have k10 : F2.1.2.1 b = (1, 0) := by rw [s2]; exact k9
  have r7 : F2.1.2.2 b 6 = some (b + 1 + 6) := by rw [s2]; exact p7
  have r8 : F2.1.2.2 b 7 = some (b + 1 + 7) := by rw [s2]; exact p8
  have w7 : F2.1.2.1 (b + 1 + 6) = (2, 4) := by rw [s2]; exact q7
  have w8 : F2.1.2.1 (b + 1 + 7) = (2, 4) := by rw [s2]; exact q8
  refine r_iconst (pc2 := 95) dX0_init_94 rfl ?_
  refine r_istore1 (pc2 := 96) dX0_init_95 rfl rfl ?_
  refine r_iload1 (pc2 := 97) dX0_init_96 rfl ?_
  refine r_iconst (pc2 := 98) dX0_init_97 rfl ?_
  refine r_icge (tgt := 125) (pc2 := 101) dX0_init_98 rfl (by decide) ⟨by omega, by omega⟩ ⟨by omega, by omega⟩ (fun h9 => absurd h9 (by decide)) (fun _ => ?_)
  refine r_aload0 (pc2 := 102) dX0_init_101 rfl ?_
  refine r_getR (pc2 := 105) dX0_init_102 rfl fX0_31 k10 r7 ?_
  refine r_iload1 (pc2 := 106) dX0_init_105 rfl ?_
  refine r_iconst (pc2 := 107) dX0_init_106 rfl ?_
  refine r_iload1 (pc2 := 108) dX0_init_107 rfl ?_
  refine r_imul (c := 0) (pc2 := 109) dX0_init_108 rfl rfl ?_
  refine r_iconst (pc2 := 110) dX0_init_109 rfl ?_
  refine r_iadd (c := 1) (pc2 := 111) dX0_init_110 rfl rfl ?_
  refine r_iast (z := 1) (pc2 := 112) dX0_init_111 rfl w7 (by omega) 0 rfl (by decide) ?_
  refine r_aload0 (pc2 := 113) dX0_init_112 rfl ?_
  refine r_getR (pc2 := 116) dX0_init_113 rfl fX0_34 k10 r8 ?_
  refine r_iload1 (pc2 := 117) dX0_init_116 rfl ?_
  refine r_iload1 (pc2 := 118) dX0_init_117 rfl ?_
  refine r_iast (z := 0) (pc2 := 119) dX0_init_118 rfl w8 (by omega) 0 rfl (by decide) ?_
  refine r_iinc1 (z := 1) (pc2 := 122) dX0_init_119 rfl rfl rfl ?_
  refine r_goto (tgt := 96) dX0_init_122 (by decide) ?_
  refine r_iload1 (pc2 := 97) dX0_init_96 rfl ?_
  refine r_iconst (pc2 := 98) dX0_init_97 rfl ?_
  refine r_icge (tgt := 125) (pc2 := 101) dX0_init_98 rfl (by decide) ⟨by omega, by omega⟩ ⟨by omega, by omega⟩ (fun h9 => absurd h9 (by decide)) (fun _ => ?_)
  refine r_aload0 (pc2 := 102) dX0_init_101 rfl ?_
  refine r_getR (pc2 := 105) dX0_init_102 rfl fX0_31 k10 r7 ?_
  refine r_iload1 (pc2 := 106) dX0_init_105 rfl ?_
  refine r_iconst (pc2 := 107) dX0_init_106 rfl ?_
  refine r_iload1 (pc2 := 108) dX0_init_107 rfl ?_
  refine r_imul (c := 3) (pc2 := 109) dX0_init_108 rfl rfl ?_
  refine r_iconst (pc2 := 110) dX0_init_109 rfl ?_
  refine r_iadd (c := 4) (pc2 := 111) dX0_init_110 rfl rfl ?_
  refine r_iast (z := 4) (pc2 := 112) dX0_init_111 rfl w7 (by omega) 1 rfl (by decide) ?_
  refine r_aload0 (pc2 := 113) dX0_init_112 rfl ?_
  refine r_getR (pc2 := 116) dX0_init_113 rfl fX0_34 k10 r8 ?_
  refine r_iload1 (pc2 := 117) dX0_init_116 rfl ?_
  refine r_iload1 (pc2 := 118) dX0_init_117 rfl ?_
  refine r_iast (z := 1) (pc2 := 119) dX0_init_118 rfl w8 (by omega) 1 rfl (by decide) ?_
  refine r_iinc1 (z := 2) (pc2 := 122) dX0_init_119 rfl rfl rfl ?_
  refine r_goto (tgt := 96) dX0_init_122 (by decide) ?_
  refine r_iload1 (pc2 := 97) dX0_init_96 rfl ?_
  refine r_iconst (pc2 := 98) dX0_init_97 rfl ?_
  refine r_icge (tgt := 125) (pc2 := 101) dX0_init_98 rfl (by decide) ⟨by omega, by omega⟩ ⟨by omega, by omega⟩ (fun h9 => absurd h9 (by decide)) (fun _ => ?_)
  refine r_aload0 (pc2 := 102) dX0_init_101 rfl ?_
  refine r_getR (pc2 := 105) dX0_init_102 rfl fX0_31 k10 r7 ?_
  refine r_iload1 (pc2 := 106) dX0_init_105 rfl ?_
  refine r_iconst (pc2 := 107) dX0_init_106 rfl ?_
  refine r_iload1 (pc2 := 108) dX0_init_107 rfl ?_
  refine r_imul (c := 6) (pc2 := 109) dX0_init_108 rfl rfl ?_
  refine r_iconst (pc2 := 110) dX0_init_109 rfl ?_
  refine r_iadd (c := 7) (pc2 := 111) dX0_init_110 rfl rfl ?_
  refine r_iast (z := 7) (pc2 := 112) dX0_init_111 rfl w7 (by omega) 2 rfl (by decide) ?_
  refine r_aload0 (pc2 := 113) dX0_init_112 rfl ?_
  refine r_getR (pc2 := 116) dX0_init_113 rfl fX0_34 k10 r8 ?_
  refine r_iload1 (pc2 := 117) dX0_init_116 rfl ?_
  refine r_iload1 (pc2 := 118) dX0_init_117 rfl ?_
  refine r_iast (z := 2) (pc2 := 119) dX0_init_118 rfl w8 (by omega) 2 rfl (by decide) ?_
  refine r_iinc1 (z := 3) (pc2 := 122) dX0_init_119 rfl rfl rfl ?_
  refine r_goto (tgt := 96) dX0_init_122 (by decide) ?_
  refine r_iload1 (pc2 := 97) dX0_init_96 rfl ?_
  refine r_iconst (pc2 := 98) dX0_init_97 rfl ?_
  refine r_icge (tgt := 125) (pc2 := 101) dX0_init_98 rfl (by decide) ⟨by omega, by omega⟩ ⟨by omega, by omega⟩ (fun h9 => absurd h9 (by decide)) (fun _ => ?_)
  refine r_aload0 (pc2 := 102) dX0_init_101 rfl ?_
  refine r_getR (pc2 := 105) dX0_init_102 rfl fX0_31 k10 r7 ?_
  refine r_iload1 (pc2 := 106) dX0_init_105 rfl ?_
  refine r_iconst (pc2 := 107) dX0_init_106 rfl ?_
  refine r_iload1 (pc2 := 108) dX0_init_107 rfl ?_
  refine r_imul (c := 9) (pc2 := 109) dX0_init_108 rfl rfl ?_
  refine r_iconst (pc2 := 110) dX0_init_109 rfl ?_
  refine r_iadd (c := 10) (pc2 := 111) dX0_init_110 rfl rfl ?_
  refine r_iast (z := 10) (pc2 := 112) dX0_init_111 rfl w7 (by omega) 3 rfl (by decide) ?_
  refine r_aload0 (pc2 := 113) dX0_init_112 rfl ?_
  refine r_getR (pc2 := 116) dX0_init_113 rfl fX0_34 k10 r8 ?_
  refine r_iload1 (pc2 := 117) dX0_init_116 rfl ?_
  refine r_iload1 (pc2 := 118) dX0_init_117 rfl ?_
  refine r_iast (z := 3) (pc2 := 119) dX0_init_118 rfl w8 (by omega) 3 rfl (by decide) ?_
  refine r_iinc1 (z := 4) (pc2 := 122) dX0_init_119 rfl rfl rfl ?_
  refine r_goto (tgt := 96) dX0_init_122 (by decide) ?_
  refine r_iload1 (pc2 := 97) dX0_init_96 rfl ?_
  refine r_iconst (pc2 := 98) dX0_init_97 rfl ?_
  refine r_icge (tgt := 125) (pc2 := 101) dX0_init_98 rfl (by decide) ⟨by omega, by omega⟩ ⟨by omega, by omega⟩ (fun _ => ?_) (fun h9 => absurd h9 (by decide))
  refine r_ret dX0_init_125 rfl ?_
  obtain ⟨M2, hM2⟩ : ∃ M2, M2 = pI (pI (pI (pI (pI (pI (pI (pI F2 (b + 1 + 6) 0 1) (b + 1 + 7) 0 0) (b + 1 + 6) 1 4) (b + 1 + 7) 1 1) (b + 1 + 6) 2 7) (b + 1 + 7) 2 2) (b + 1 + 6) 3 10) (b + 1 + 7) 3 3 := ⟨_, rfl⟩
  have goal9 : GW M M2 b (b + 10) := by
    have sM : M2.1 = M9.1 := by rw [hM2]; exact s2
    have jz : ∀ c, M2.2.2 c = F2.2.2 c := fun c => by rw [hM2]; rfl
    have iO : ∀ c, c ≠ b + 1 + 3 → c ≠ b + 1 + 5 → c ≠ b + 1 + 6 → c ≠ b + 1 + 7 → M2.2.1 c = M9.2.1 c := fun c h7 h8 h9 h10 => by
      rw [hM2, pI_ne h10, pI_ne h9, pI_ne h10, pI_ne h9, pI_ne h10, pI_ne h9, pI_ne h10, pI_ne h9, f2.i (by simp only [List.mem_cons, List.not_mem_nil, or_false]; omega), f1.i (by simp only [List.mem_cons, List.not_mem_nil, or_false]; omega)]
    have e4 : M2.2.1 (b + 1 + 3) = F1.2.1 (b + 1 + 3) := by rw [hM2, pI_ne (by omega), pI_ne (by omega), pI_ne (by omega), pI_ne (by omega), pI_ne (by omega), pI_ne (by omega), pI_ne (by omega), pI_ne (by omega), f2.i (by simp only [List.mem_cons, List.not_mem_nil, or_false]; omega)]
    have e6 : M2.2.1 (b + 1 + 5) = F2.2.1 (b + 1 + 5) := by rw [hM2, pI_ne (by omega), pI_ne (by omega), pI_ne (by omega), pI_ne (by omega), pI_ne (by omega), pI_ne (by omega), pI_ne (by omega), pI_ne (by omega)]
    have e7 : M2.2.1 (b + 1 + 6) = va_up (va_up (va_up (va_up (F2.2.1 (b + 1 + 6)) 0 1) 1 4) 2 7) 3 10 := by rw [hM2, pI_ne (by omega), pI_eq, pI_ne (by omega), pI_eq, pI_ne (by omega), pI_eq, pI_ne (by omega), pI_eq]
    have e8 : M2.2.1 (b + 1 + 7) = va_up (va_up (va_up (va_up (F2.2.1 (b + 1 + 7)) 0 0) 1 1) 2 2) 3 3 := by rw [hM2, pI_eq, pI_ne (by omega), pI_eq, pI_ne (by omega), pI_eq, pI_ne (by omega), pI_eq, pI_ne (by omega)]
    have z9 : ∀ i, i < 9 → ∃ x, ndB[i]? = some x ∧ k0 (b + 1 + i) = (x.1, x.2.1) := fun i hi => nd_at (k0_b hb) hi
    have z7 : F2.2.1 (b + 1 + 6) = fun _ => 0 := by rw [f2.i (by simp only [List.mem_cons, List.not_mem_nil, or_false]; omega), f1.i (by simp only [List.mem_cons, List.not_mem_nil, or_false]; omega)]; exact (h6 6 _ rfl).2.2.1
    have z8 : F2.2.1 (b + 1 + 7) = fun _ => 0 := by rw [f2.i (by simp only [List.mem_cons, List.not_mem_nil, or_false]; omega), f1.i (by simp only [List.mem_cons, List.not_mem_nil, or_false]; omega)]; exact (h6 7 _ rfl).2.2.1
    have z4 : ∀ j, F1.2.1 (b + 1 + 3) j = if j < 156 then -1 else 0 := fun j => by
      by_cases u : j < 156
      · rw [if_pos u]; exact g1 j u
      · rw [if_neg u, g1b j (by omega), (h6 3 _ rfl).2.2.1]
    have z6 : ∀ j, F2.2.1 (b + 1 + 5) j = if j < 13 then -1 else 0 := fun j => by
      by_cases u : j < 13
      · rw [if_pos u]; exact g2 j u
      · rw [if_neg u, g2b j (by omega), f1.i (by simp only [List.mem_cons, List.not_mem_nil, or_false]; omega), (h6 5 _ rfl).2.2.1]
    refine ⟨⟨hf.1, by rw [sM, h1]; rfl, by omega⟩, fun c hc => by rw [sM]; exact h2 c (by omega), fun c hc => ⟨by rw [sM]; exact h3 c (by omega) (by omega), by rw [iO c (by omega) (by omega) (by omega) (by omega)]; exact (h4 c (by omega)).1, by rw [jz, f2.j (by simp only [List.mem_cons, List.not_mem_nil, or_false]; omega), f1.j (by simp only [List.mem_cons, List.not_mem_nil, or_false]; omega)]; exact (h4 c (by omega)).2⟩, fun c q1 q2 => ?_, fun c q1 q2 _ _ v4 v6 j => ?_, fun j => by rw [sM, hrA, r0_b hb], fun j => ?_⟩
    · obtain ⟨i, hi, rfl⟩ : ∃ i, i < 9 ∧ c = b + 1 + i := ⟨c - (b + 1), by omega, by omega⟩
      obtain ⟨x, hx, kx⟩ := z9 i hi
      obtain ⟨g5, g6, g7, g8⟩ := h6 i x hx
      refine ⟨by rw [sM, g5, kx], fun j => by rw [sM, g6, show b + 1 + i = b + (1 + i) by omega, r0_none (rZ_b hb (by omega) (by omega))], fun j => ?_⟩
      have hz := z0_b (i := 1 + i) (j := j) hb (by omega)
      rw [show b + (1 + i) = b + 1 + i by omega] at hz
      rw [hz]
      by_cases u3 : i = 3
      · subst u3
        rw [e4, z4]
        by_cases u : j < 156
        · rw [if_pos u, if_pos ⟨rfl, u⟩]
        · rw [if_neg u, if_neg (by omega), if_neg (by omega), if_neg (by omega), if_neg (by omega)]
      by_cases u5 : i = 5
      · subst u5
        rw [e6, z6, if_neg (c := 1 + 5 = 4 ∧ j < 156) (by omega)]
        by_cases u : j < 13
        · rw [if_pos u, if_pos ⟨rfl, u⟩]
        · rw [if_neg u, if_neg (by omega), if_neg (by omega), if_neg (by omega)]
      by_cases u6 : i = 6
      · subst u6
        rw [e7, z7, if_neg (c := 1 + 6 = 4 ∧ j < 156) (by omega), if_neg (c := 1 + 6 = 6 ∧ j < 13) (by omega)]
        match j with
        | 0 => rfl
        | 1 => rfl
        | 2 => rfl
        | 3 => rfl
        | j + 4 => rw [up_ne (by omega), up_ne (by omega), up_ne (by omega), up_ne (by omega), if_neg (by omega), if_neg (by omega)]
      by_cases u7 : i = 7
      · subst u7
        rw [e8, z8, if_neg (c := 1 + 7 = 4 ∧ j < 156) (by omega), if_neg (c := 1 + 7 = 6 ∧ j < 13) (by omega), if_neg (c := 1 + 7 = 7 ∧ j < 4) (by omega)]
        match j with
        | 0 => rfl
        | 1 => rfl
        | 2 => rfl
        | 3 => rfl
        | j + 4 => rw [up_ne (by omega), up_ne (by omega), up_ne (by omega), up_ne (by omega), if_neg (by omega)]
      rw [iO _ (by omega) (by omega) (by omega) (by omega), g7, if_neg (by omega), if_neg (by omega), if_neg (by omega), if_neg (by omega)]
    · rw [jz]
      obtain ⟨i, hi, rfl⟩ : ∃ i, i < 10 ∧ c = b + i := ⟨c - b, by omega, by omega⟩
      rw [bO_b hb hi] at v4 v6
      rw [f2.j (by simp only [List.mem_cons, List.not_mem_nil, or_false]; omega), f1.j (by simp only [List.mem_cons, List.not_mem_nil, or_false]; omega)]
      by_cases u : i = 0
      · subst u; rw [Nat.add_zero, (h4 b (by omega)).2, hf.2.2.2.2]
      · obtain ⟨x, hx, kx⟩ := z9 (i - 1) (by omega)
        obtain ⟨g5, g6, g7, g8⟩ := h6 (i - 1) x hx
        rw [show b + 1 + (i - 1) = b + i by omega] at g8
        rw [g8]
    · rw [iO b (by omega) (by omega) (by omega) (by omega), (h4 b (by omega)).1, hf.2.2.2.1]
      have h9 := z0_b (i := 0) (j := j) hb (by decide)
      rw [Nat.add_zero] at h9
      rw [h9, if_neg (by omega), if_neg (by omega), if_neg (by omega), if_neg (by omega)]
  rw [hM2] at goal9
  exact ⟨rfl, goal9⟩
