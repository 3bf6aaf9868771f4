/-! the class's Rounds.look (263: knownHopper 0, lead 1, period 2) -/
def KE (pc sz : Nat → Int) (ix : Nat → Nat) (k : (Nat → Int) × Nat) (v w : Int64) : Prop := BE pc ix v k.1 ∧ w = jL ((k.2 : Nat) : Int) ∧ k.2 < 4 ∧ Ksh pc sz k.1
theorem KE.key {pc sz : Nat → Int} {ix : Nat → Nat} {k k2 : (Nat → Int) × Nat} {v w v2 w2 : Int64} (hx : Ixw pc ix) (h : KE pc sz ix k v w) (h2 : KE pc sz ix k2 v2 w2) : (v = v2 ∧ w = w2) ↔ k = k2 := by
  obtain ⟨a1, a2, a3, a4⟩ := h
  obtain ⟨b1, b2, b3, b4⟩ := h2
  constructor
  · rintro ⟨rfl, rfl⟩
    have e1 := BE.inj hx a4 b4 a1 b1
    have e2 := (jL_key a3 b3).mp (a2.symm.trans b2)
    exact Prod.ext e1 e2
  · rintro rfl
    exact ⟨a1.uniq b1, a2.trans b2.symm⟩
def noK {κ : Type} (n : Nat) (K : Nat → κ) (k : κ) : Prop := ¬ ∃ i, i < n ∧ K i = k
/-- a search has gone on, over the boards bs -/
def frS (bs : List Nat) (M M2 : pM) : Prop := fr (bs ++ [256, 257, 258, 259, 260, 261, 262]) M M2 ∧ ∀ b ∈ bs, M2.2.1 b = M.2.1 b ∧ ∀ k, k ≠ 12 → M2.2.2 b k = M.2.2 b k
theorem frS.rf {bs : List Nat} {M : pM} : frS bs M M := ⟨fr.rf, fun _ _ => ⟨rfl, fun _ _ => rfl⟩⟩
theorem frS.tr {bs : List Nat} {M M1 M2 : pM} (h : frS bs M M1) (h2 : frS bs M1 M2) : frS bs M M2 := ⟨h.1.tr h2.1, fun b hb => ⟨(h2.2 b hb).1.trans (h.2 b hb).1, fun k hk => ((h2.2 b hb).2 k hk).trans ((h.2 b hb).2 k hk)⟩⟩
theorem frS.sn {bs : List Nat} {M M2 : pM} (hb : ∀ b ∈ bs, b ∉ [256, 257, 258, 259, 260, 261, 262]) (h : fr [256, 257, 258, 259, 260, 261, 262] M M2) : frS bs M M2 :=
  ⟨h.mono (fun a ha => List.mem_append.mpr (Or.inr ha)), fun b hb2 => ⟨(h.2 b (hb b hb2)).1, fun k _ => by rw [(h.2 b (hb b hb2)).2]⟩⟩
theorem frS.dr {bs : List Nat} {M : pM} {b : Nat} {v : Int64} (hb : b ∈ bs) : frS bs M (pJ M b 12 v) :=
  ⟨fr.J fr.rf (List.mem_append.mpr (Or.inl hb)), fun c hc => ⟨rfl, fun k hk => by
    by_cases e : c = b
    · subst e; exact pJ_nk hk
    · rw [pJ_ne e]⟩⟩
theorem SN.dr {M M2 : pM} {n : Nat} {A B : Nat → Int64} (h : SN M n A B) (hi : ∀ a, 256 ≤ a → a ≤ 262 → (a = 256 → M2.2.1 256 6 = M.2.1 256 6) ∧ (a ≠ 256 → M2.2.1 a = M.2.1 a) ∧ M2.2.2 a = M.2.2 a) : SN M2 n A B := by
  obtain ⟨s1, s2, s3, s4, s5, s6⟩ := h
  have e1 := (hi 261 (by omega) (by omega)).2.1 (by omega)
  have e2 := (hi 262 (by omega) (by omega)).2.1 (by omega)
  refine ⟨by rw [(hi 256 (by omega) (by omega)).1 rfl]; exact s1, s2, fun i h9 => by rw [(hi 257 (by omega) (by omega)).2.2, (hi 258 (by omega) (by omega)).2.2]; exact s3 i h9, fun c hc => by rw [e1]; exact s4 c hc, fun i h9 => by rw [e2]; exact s5 i h9, s6.congr (fun c hc => ?_) (fun i _ => ⟨rfl, rfl⟩)⟩
  unfold occC
  rw [e1, e2]
theorem cBd19 {M M2 : pM} {pc sz tr : Nat → Int} {ix : Nat → Nat} (h : cBd M 19 pc sz tr ix) (hf : frS [19] M M2) : cBd M2 19 pc sz tr ix := by
  obtain ⟨h1, h2, h3, h4, h5, h6⟩ := h
  refine ⟨fun q hq => ?_, fun q hq => ?_, fun q hq => ?_, fun q hq => ?_, fun q hq hp j hj => ?_, h6⟩
  · rw [hf.1.i (by decide)]; exact h1 q hq
  · rw [hf.1.i (by decide)]; exact h2 q hq
  · rw [hf.1.i (by decide)]; exact h3 q hq
  · rw [hf.1.i (by decide)]; exact h4 q hq
  · rw [hf.1.j (by decide)]; exact h5 q hq hp j hj
theorem stk0 {pc tr : Nat → Int} {ix : Nat → Nat} (ht : ∀ p, p < 156 → -1 ≤ tr p) : stk pc tr ix (-2) 0 := fun j hj => by
  rw [bl_0]
  constructor
  · intro h; cases h
  · rintro ⟨q, q1, q2, q3, q4⟩; have := ht q q1; omega
set_option maxHeartbeats 8000000 in
theorem lp_X5_look {d : Nat} {Q : pQ} {pc sz tr kd lv : Nat → Int} {co ix : Nat → Nat} {R : Int → Int → Prop} {hop : Int} (M0 : pM) (hS0 : sOk M0.1) (hB0 : cBd M0 19 pc sz tr ix) (htr : ∀ p, p < 156 → -1 ≤ tr p) (hkd : ∀ h, h < 4 → M0.2.1 27 h = kd h ∧ inR (kd h)) (hco : ∀ h, h < 4 → M0.2.1 26 h = ((co h : Nat) : Int) ∧ co h < 13) (hlv : ∀ x, x < 13 → M0.2.1 25 x = lv x ∧ -1 ≤ lv x ∧ lv x < 4) (hm1 : M0.2.1 263 1 = -1 ∧ M0.2.1 263 2 = -1)
    (hQ : ∀ M M2 n A B a b, R a b → frS [19] M0 M → SN M n A B → (M2 = M ∧ a = -1 ∧ b = -1 ∨ M2 = pI (pI M 263 1 a) 263 2 b) → Q none M2) :
    ∀ (m n : Nat) (k : (Nat → Int) × Nat) (K : Nat → (Nat → Int) × Nat) (A B : Nat → Int64) (v : Int64) (M : pM) (l8 l9 : Option Value), n + m = 4001 → frS [19] M0 M → SN M n A B → M.2.1 256 7 = 4000 → (∀ i, i < n → KE pc sz ix (K i) (A i) (B i)) → KE pc sz ix k v (jL ((k.2 : Nat) : Int)) → (∀ a b, rnd (stp pc sz tr kd co lv) m n K k a b → R a b) →
      Go (Ct (d + 3)) Q yX5_look cX5_look none 0 0 43 [some (.ref 263), some (.ref 19), some (.int (iI hop)), some (.ref 256), some (.long v), none, some (.int (iI ((k.2 : Nat) : Int))), some (.int (iI ((n : Nat) : Int))), l8, l9] [] M := by
  intro m
  induction m with
  | zero => intro n k K A B v M l8 l9 hm hfr hN; have := hN.2.1; omega
  | succ m ih =>
    intro n k K A B v M l8 l9 hm hfr hN hlim hK hk hR
    have hS := hfr.1.ok hS0
    have hn4 := hN.2.1
    have hx := hB0.2.2.2.2.2
    have hdk := dHow_K (tr := tr) (kd := kd) (st := -2) (hco k.2 hk.2.2.1).2 hk.2.2.2
    have hk4 := hk.2.2.1
    have hex : (∃ i, i < n ∧ A i = v ∧ B i = jL ((k.2 : Nat) : Int)) ↔ ∃ i, i < n ∧ K i = k := ⟨fun ⟨i, i1, i2⟩ => ⟨i, i1, ((hK i i1).key hx hk).mp i2⟩, fun ⟨i, i1, i2⟩ => ⟨i, i1, ((hK i i1).key hx hk).mpr i2⟩⟩
    have hl : (dHow pc sz tr kd co (-2) k.1 k.2).1 < 256 → -1 ≤ lv (dHow pc sz tr kd co (-2) k.1 k.2).1.toNat ∧ lv (dHow pc sz tr kd co (-2) k.1 k.2).1.toNat < 4 := fun h => (hlv _ (by omega)).2
    rw [show rnd (stp pc sz tr kd co lv) (m + 1) n K k = _ from by funext a b; rw [rnd]] at hR
    have hdrop : ∀ M9 : pM, frS [19] M0 M9 → Ct (d + 3) 0 0 yX0_dropFrom [.ref 19, .long v, .int (iI ((k.2 : Nat) : Int)), .long 0] M9 (fun r M2 => r = some (.int (iI (dHow pc sz tr kd co (-2) k.1 k.2).1)) ∧ ∃ a2, M2 = pJ M9 19 12 a2 ∧ BE pc ix a2 (dHow pc sz tr kd co (-2) k.1 k.2).2) := fun M9 h9 => c_X0_dropFrom (d := d) (b := 19) (tr := tr) (sz := sz) (h9.1.ok hS0) isB_19 hk4 (cBd19 hB0 h9) hk.2.2.2.1 hk.1 (stk0 htr) (by rw [h9.1.i (by decide)]; exact (hkd _ hk4).1) (hkd _ hk4).2 (by rw [h9.1.i (by decide)]; exact (hco _ hk4).1) (hco _ hk4).2
    refine r_iload7 (pc2 := 45) dX5_look_43 rfl ?_
    refine r_sipush (pc2 := 48) dX5_look_45 rfl (by decide) (by decide) ?_
    refine r_icgt (tgt := 149) (pc2 := 51) dX5_look_48 rfl (by decide) ⟨by omega, by omega⟩ ⟨by omega, by omega⟩ (fun b_48 => ?_) (fun b_48 => ?_)
    · refine r_ret dX5_look_149 rfl ?_
      exact absurd b_48 (by omega)
    · refine r_aload3 (pc2 := 52) dX5_look_51 rfl ?_
      refine r_lload4 (pc2 := 54) dX5_look_52 rfl ?_
      refine r_iload6 (pc2 := 56) dX5_look_54 rfl ?_
      refine r_i2l (pc2 := 57) dX5_look_56 rfl ⟨by omega, by omega⟩ ?_
      refine r_iload7 (pc2 := 59) dX5_look_57 rfl ?_
      refine r_iconst (pc2 := 60) dX5_look_59 rfl ?_
      refine r_isub (c := (((n : Nat) : Int) - 1)) (pc2 := 61) dX5_look_60 rfl rfl ?_
      refine r_iload6 (pc2 := 63) dX5_look_61 rfl ?_
      refine r_cv4 (pc2 := 66) dX5_look_63 rfl vX5_33 (hK_256 hS) (by decide) (c_X6_note (d := d) (n := n) (A := A) (B := B) hS hN (by omega)) ?_
      rintro _ M9 (⟨i, i1, i2, i3, rfl, h9⟩ | ⟨hno, hfull, rfl, h9⟩ | ⟨hno, hroom, rfl, hN9, hf9, -, -, hl9, hr9⟩)
      · clear hex
        have hf9 : frS [19] M0 M9 := hfr.tr (frS.sn (by decide) (by rw [h9]; exact fr.I fr.rf (by decide)))
        have hr9 : M9.2.1 256 8 = 0 := by rw [h9]; exact pI_at
        have hN9 : SN M9 n A B := hN.dr (fun a ha hb => by rw [h9]; exact ⟨fun e => pI_nk (by decide), fun e => pI_ne e, rfl⟩)
        show Go (Ct (d + 3)) _ yX5_look cX5_look none 0 0 66 [some (.ref 263), some (.ref 19), some (.int (iI hop)), some (.ref 256), some (.long (v)), none, some (.int (iI ((k.2 : Nat) : Int))), some (.int (iI ((n : Nat) : Int))), l8, l9] [.int (iI ((i : Nat) : Int))] M9
        refine r_istore8 (pc2 := 68) dX5_look_66 rfl rfl ?_
        refine r_aload3 (pc2 := 69) dX5_look_68 rfl ?_
        refine r_getI (z := 0) (pc2 := 72) dX5_look_69 rfl (Or.inr fX5_37) (hK_256 (hf9.1.ok hS0)) hr9 ?_
        refine r_ifne (tgt := 91) (pc2 := 75) dX5_look_72 rfl (by decide) ⟨by omega, by omega⟩ (fun h9 => absurd h9 (by decide)) (fun _ => ?_)
        refine r_aload0 (pc2 := 76) dX5_look_75 rfl ?_
        refine r_iload8 (pc2 := 78) dX5_look_76 rfl ?_
        refine r_putI (z := ((i : Nat) : Int)) (pc2 := 81) dX5_look_78 rfl fX5_15 (w5_1 _) (hK_263 (hf9.1.ok hS0)) (by decide) ?_
        refine r_aload0 (pc2 := 82) dX5_look_81 rfl ?_
        refine r_iload7 (pc2 := 84) dX5_look_82 rfl ?_
        refine r_iload8 (pc2 := 86) dX5_look_84 rfl ?_
        refine r_isub (c := (((n : Nat) : Int) - ((i : Nat) : Int))) (pc2 := 87) dX5_look_86 rfl rfl ?_
        refine r_putI (z := (((n : Nat) : Int) - ((i : Nat) : Int))) (pc2 := 90) dX5_look_87 rfl fX5_18 (w5_2 _) (hK_263 (hf9.1.ok hS0)) (by decide) ?_
        refine r_ret dX5_look_90 rfl ?_
        refine hQ M9 _ n A B (i : Int) ((n : Int) - (i : Int)) (hR _ _ (Or.inl ⟨i, i1, ((hK i i1).key hx hk).mp ⟨i2, i3⟩, rfl, rfl⟩)) hf9 hN9 (Or.inr rfl)
      · have hno2 : noK n K k := fun h => hno (hex.mpr h)
        clear hno hex
        have hf9 : frS [19] M0 M9 := hfr.tr (frS.sn (by decide) (by rw [h9]; exact fr.I fr.rf (by decide)))
        have hr9 : M9.2.1 256 8 = 1 := by rw [h9]; exact pI_at
        have hN9 : SN M9 n A B := hN.dr (fun a ha hb => by rw [h9]; exact ⟨fun e => pI_nk (by decide), fun e => pI_ne e, rfl⟩)
        show Go (Ct (d + 3)) _ yX5_look cX5_look none 0 0 66 [some (.ref 263), some (.ref 19), some (.int (iI hop)), some (.ref 256), some (.long (v)), none, some (.int (iI ((k.2 : Nat) : Int))), some (.int (iI ((n : Nat) : Int))), l8, l9] [.int (iI (-1))] M9
        refine r_istore8 (pc2 := 68) dX5_look_66 rfl rfl ?_
        refine r_aload3 (pc2 := 69) dX5_look_68 rfl ?_
        refine r_getI (z := 1) (pc2 := 72) dX5_look_69 rfl (Or.inr fX5_37) (hK_256 (hf9.1.ok hS0)) hr9 ?_
        refine r_ifne (tgt := 91) (pc2 := 75) dX5_look_72 rfl (by decide) ⟨by omega, by omega⟩ (fun _ => ?_) (fun h9 => absurd h9 (by decide))
        refine r_aload1 (pc2 := 92) dX5_look_91 rfl ?_
        refine r_lload4 (pc2 := 94) dX5_look_92 rfl ?_
        refine r_iload6 (pc2 := 96) dX5_look_94 rfl ?_
        refine r_lconst (pc2 := 97) dX5_look_96 rfl ?_
        refine r_cv3 (pc2 := 100) dX5_look_97 rfl vX5_41 (hK_19 (hf9.1.ok hS0)) (by decide) (hdrop M9 hf9) ?_
        rintro _ M8 ⟨rfl, a2, h8, hE8⟩
        rw [h8]
        have hf8 : frS [19] M0 (pJ M9 19 12 a2) := hf9.tr (frS.dr (by decide))
        show Go (Ct (d + 3)) _ yX5_look cX5_look none 0 0 100 [some (.ref 263), some (.ref 19), some (.int (iI hop)), some (.ref 256), some (.long (v)), none, some (.int (iI ((k.2 : Nat) : Int))), some (.int (iI ((n : Nat) : Int))), some (.int (iI (-1))), l9] [.int (iI (dHow pc sz tr kd co (-2) k.1 k.2).1)] (pJ M9 19 12 a2)
        refine r_istore9 (pc2 := 102) dX5_look_100 rfl rfl ?_
        refine r_iload8 (pc2 := 104) dX5_look_102 rfl ?_
        refine r_iconst (pc2 := 105) dX5_look_104 rfl ?_
        refine r_iceq (tgt := 127) (pc2 := 108) dX5_look_105 rfl (by decide) ⟨by omega, by omega⟩ ⟨by omega, by omega⟩ (fun _ => ?_) (fun h9 => absurd h9 (by decide))
        refine r_ret dX5_look_127 rfl ?_
        exact hQ _ _ n A B (-1) (-1) (hR _ _ (Or.inr ⟨hno2, Or.inl ⟨Or.inl (by omega), rfl, rfl⟩⟩)) hf8 (hN9.dr (fun a ha hb => ⟨fun e => rfl, fun e => rfl, pJ_ne (by omega)⟩)) (Or.inl ⟨rfl, rfl, rfl⟩)
      · have hno2 : noK n K k := fun h => hno (hex.mpr h)
        clear hno hex
        have hf9 : frS [19] M0 M9 := hfr.tr (frS.sn (by decide) hf9)
        show Go (Ct (d + 3)) _ yX5_look cX5_look none 0 0 66 [some (.ref 263), some (.ref 19), some (.int (iI hop)), some (.ref 256), some (.long (v)), none, some (.int (iI ((k.2 : Nat) : Int))), some (.int (iI ((n : Nat) : Int))), l8, l9] [.int (iI ((n : Nat) : Int))] M9
        refine r_istore8 (pc2 := 68) dX5_look_66 rfl rfl ?_
        refine r_aload3 (pc2 := 69) dX5_look_68 rfl ?_
        refine r_getI (z := 1) (pc2 := 72) dX5_look_69 rfl (Or.inr fX5_37) (hK_256 (hf9.1.ok hS0)) hr9 ?_
        refine r_ifne (tgt := 91) (pc2 := 75) dX5_look_72 rfl (by decide) ⟨by omega, by omega⟩ (fun _ => ?_) (fun h9 => absurd h9 (by decide))
        refine r_aload1 (pc2 := 92) dX5_look_91 rfl ?_
        refine r_lload4 (pc2 := 94) dX5_look_92 rfl ?_
        refine r_iload6 (pc2 := 96) dX5_look_94 rfl ?_
        refine r_lconst (pc2 := 97) dX5_look_96 rfl ?_
        refine r_cv3 (pc2 := 100) dX5_look_97 rfl vX5_41 (hK_19 (hf9.1.ok hS0)) (by decide) (hdrop M9 hf9) ?_
        rintro _ M8 ⟨rfl, a2, h8, hE8⟩
        rw [h8]
        have hf8 : frS [19] M0 (pJ M9 19 12 a2) := hf9.tr (frS.dr (by decide))
        show Go (Ct (d + 3)) _ yX5_look cX5_look none 0 0 100 [some (.ref 263), some (.ref 19), some (.int (iI hop)), some (.ref 256), some (.long (v)), none, some (.int (iI ((k.2 : Nat) : Int))), some (.int (iI ((n : Nat) : Int))), some (.int (iI ((n : Nat) : Int))), l9] [.int (iI (dHow pc sz tr kd co (-2) k.1 k.2).1)] (pJ M9 19 12 a2)
        refine r_istore9 (pc2 := 102) dX5_look_100 rfl rfl ?_
        refine r_iload8 (pc2 := 104) dX5_look_102 rfl ?_
        refine r_iconst (pc2 := 105) dX5_look_104 rfl ?_
        refine r_iceq (tgt := 127) (pc2 := 108) dX5_look_105 rfl (by decide) ⟨by omega, by omega⟩ ⟨by omega, by omega⟩ (fun b_105 => ?_) (fun b_105 => ?_)
        · refine r_ret dX5_look_127 rfl ?_
          exact absurd b_105 (by omega)
        · refine r_iload9 (pc2 := 110) dX5_look_108 rfl ?_
          refine r_sipush (pc2 := 113) dX5_look_110 rfl (by decide) (by decide) ?_
          refine r_icge (tgt := 127) (pc2 := 116) dX5_look_113 rfl (by decide) ⟨by omega, by omega⟩ ⟨by omega, by omega⟩ (fun b_113 => ?_) (fun b_113 => ?_)
          · refine r_ret dX5_look_127 rfl ?_
            exact hQ _ _ (n + 1) (va_up A n v) (va_up B n (jL ((k.2 : Nat) : Int))) (-1) (-1) (hR _ _ (Or.inr ⟨hno2, Or.inl ⟨Or.inr (by rw [stp, if_neg (by omega)]), rfl, rfl⟩⟩)) hf8 (hN9.dr (fun a ha hb => ⟨fun e => rfl, fun e => rfl, pJ_ne (by omega)⟩)) (Or.inl ⟨rfl, rfl, rfl⟩)
          · refine r_aload1 (pc2 := 117) dX5_look_116 rfl ?_
            refine r_getR (pc2 := 120) dX5_look_117 rfl fX5_45 (hK_19 (hf9.1.ok hS0)) (hR_19_5 (hf9.1.ok hS0)) ?_
            refine r_iload9 (pc2 := 122) dX5_look_120 rfl ?_
            refine r_iald (z := (lv (dHow pc sz tr kd co (-2) k.1 k.2).1.toNat)) (pc2 := 123) dX5_look_122 rfl (hK_25 (hf9.1.ok hS0)) (dHow pc sz tr kd co (-2) k.1 k.2).1.toNat (by omega) (by omega) (by show M9.2.1 25 _ = _; rw [hf9.1.i (by decide)]; exact (hlv _ (by omega)).1) ?_
            refine r_iconst (pc2 := 124) dX5_look_123 rfl ?_
            refine r_icne (tgt := 128) (pc2 := 127) dX5_look_124 rfl (by decide) ⟨by omega, by omega⟩ ⟨by omega, by omega⟩ (fun b_124 => ?_) (fun b_124 => ?_)
            · refine r_aload1 (pc2 := 129) dX5_look_128 rfl ?_
              refine r_getJ (z := a2) (pc2 := 132) dX5_look_129 rfl fX5_49 (hK_19 (hf9.1.ok hS0)) rfl ?_
              refine r_lstore4 (pc2 := 134) dX5_look_132 rfl rfl ?_
              refine r_aload1 (pc2 := 135) dX5_look_134 rfl ?_
              refine r_getR (pc2 := 138) dX5_look_135 rfl fX5_45 (hK_19 (hf9.1.ok hS0)) (hR_19_5 (hf9.1.ok hS0)) ?_
              refine r_iload9 (pc2 := 140) dX5_look_138 rfl ?_
              refine r_iald (z := (lv (dHow pc sz tr kd co (-2) k.1 k.2).1.toNat)) (pc2 := 141) dX5_look_140 rfl (hK_25 (hf9.1.ok hS0)) (dHow pc sz tr kd co (-2) k.1 k.2).1.toNat (by omega) (by omega) (by show M9.2.1 25 _ = _; rw [hf9.1.i (by decide)]; exact (hlv _ (by omega)).1) ?_
              refine r_istore6 (pc2 := 143) dX5_look_141 rfl rfl ?_
              refine r_iinc7 (z := ((n + 1 : Nat) : Int)) (pc2 := 146) dX5_look_143 rfl (by omega) rfl ?_
              refine r_goto (tgt := 43) dX5_look_146 (by decide) ?_
              have hs9 : stp pc sz tr kd co lv k = some ((dHow pc sz tr kd co (-2) k.1 k.2).2, (lv (dHow pc sz tr kd co (-2) k.1 k.2).1.toNat).toNat) := by rw [stp, if_pos ⟨by omega, by omega⟩]
              have hlt : ((lv (dHow pc sz tr kd co (-2) k.1 k.2).1.toNat).toNat : Int) = lv (dHow pc sz tr kd co (-2) k.1 k.2).1.toNat := by omega
              rw [← hlt]
              refine ih (n + 1) ((dHow pc sz tr kd co (-2) k.1 k.2).2, (lv (dHow pc sz tr kd co (-2) k.1 k.2).1.toNat).toNat) (va_up K n k) (va_up A n v) (va_up B n (jL ((k.2 : Nat) : Int))) a2 _ _ _ (by omega) hf8 (hN9.dr (fun a ha hb => ⟨fun e => rfl, fun e => rfl, pJ_ne (by omega)⟩)) (by show M9.2.1 256 7 = 4000; omega) (fun i hi => ?_) ⟨hE8, rfl, by omega, hdk.1⟩ (fun a b h => hR a b (Or.inr ⟨hno2, Or.inr ⟨by omega, _, hs9, h⟩⟩))
              by_cases e9 : i = n
              · subst e9; rw [up_at, up_at, up_at]; exact hk
              · rw [up_ne e9, up_ne e9, up_ne e9]; exact hK i (by omega)
            · refine r_ret dX5_look_127 rfl ?_
              exact hQ _ _ (n + 1) (va_up A n v) (va_up B n (jL ((k.2 : Nat) : Int))) (-1) (-1) (hR _ _ (Or.inr ⟨hno2, Or.inl ⟨Or.inr (by rw [stp, if_neg (by omega)]), rfl, rfl⟩⟩)) hf8 (hN9.dr (fun a ha hb => ⟨fun e => rfl, fun e => rfl, pJ_ne (by omega)⟩)) (Or.inl ⟨rfl, rfl, rfl⟩)
def SNr (M : pM) : Prop := (∀ c, c < 8192 → 0 ≤ M.2.1 261 c ∧ M.2.1 261 c < 4000) ∧ ∀ i, i < 4000 → 0 ≤ M.2.1 262 i ∧ M.2.1 262 i < 8192
theorem SN.r {M : pM} {n : Nat} {A B : Nat → Int64} (h : SN M n A B) : SNr M := ⟨h.2.2.2.1, h.2.2.2.2.1⟩
set_option maxHeartbeats 4000000 in
theorem c_X5_look {d : Nat} {M : pM} {h : Nat} {v : Int64} {pc sz tr sh kd lv : Nat → Int} {co ix : Nat → Nat} (hS : sOk M.1) (hB : cBd M 19 pc sz tr ix) (htr : ∀ p, p < 156 → -1 ≤ tr p) (hkd : ∀ h, h < 4 → M.2.1 27 h = kd h ∧ inR (kd h)) (hco : ∀ h, h < 4 → M.2.1 26 h = ((co h : Nat) : Int) ∧ co h < 13) (hlv : ∀ x, x < 13 → M.2.1 25 x = lv x ∧ -1 ≤ lv x ∧ lv x < 4) (hh : h < 4) (hv : M.2.2 19 11 = v) (hE : BE pc ix v sh) (hk : Ksh pc sz sh) (hSr : SNr M) (hkn : inR (M.2.1 263 0)) : Ct (d + 4) 0 0 yX5_look [.ref 263, .ref 19, .int (iI ((h : Nat) : Int)), .ref 256] M (fun v M2 => (M.2.1 263 0 = (h : Int) ∧ M2 = M) ∨ (M.2.1 263 0 ≠ (h : Int) ∧ ∃ a b, rnd (stp pc sz tr kd co lv) 4001 0 (fun _ => (sh, h)) (sh, h) a b ∧ M2.2.1 263 1 = a ∧ M2.2.1 263 2 = b ∧ M2.2.1 263 0 = (h : Int) ∧ fr [19, 256, 257, 258, 259, 260, 261, 262, 263] M M2 ∧ M2.2.1 19 = M.2.1 19 ∧ (∀ k, k ≠ 12 → M2.2.2 19 k = M.2.2 19 k) ∧ SNr M2)) := by
  refine ct_in (d := (d + 3)) kX5_look rfl (by decide) (Nat.le_of_ble_eq_true rfl) (by decide) ?_
  show Go (Ct (d + 3)) _ yX5_look cX5_look none 0 0 0 [some (.ref 263), some (.ref 19), some (.int (iI ((h : Nat) : Int))), some (.ref 256), none, none, none, none, none, none] [] M
  obtain ⟨kn1, kn2⟩ := hkn
  refine r_aload0 (pc2 := 1) dX5_look_0 rfl ?_
  refine r_getI (z := (M.2.1 263 0)) (pc2 := 4) dX5_look_1 rfl (Or.inl fX5_9) (hK_263 hS) rfl ?_
  refine r_iload2 (pc2 := 5) dX5_look_4 rfl ?_
  refine r_icne (tgt := 9) (pc2 := 8) dX5_look_5 rfl (by decide) ⟨by omega, by omega⟩ ⟨by omega, by omega⟩ (fun b_5 => ?_) (fun b_5 => ?_)
  · refine r_aload0 (pc2 := 10) dX5_look_9 rfl ?_
    refine r_iload2 (pc2 := 11) dX5_look_10 rfl ?_
    refine r_putI (z := ((h : Nat) : Int)) (pc2 := 14) dX5_look_11 rfl fX5_9 (w5_0 _) (hK_263 hS) (by decide) ?_
    refine r_aload0 (pc2 := 15) dX5_look_14 rfl ?_
    refine r_iconst (pc2 := 16) dX5_look_15 rfl ?_
    refine r_putI (z := (-1)) (pc2 := 19) dX5_look_16 rfl fX5_15 (w5_1 _) (hK_263 hS) (by decide) ?_
    refine r_aload0 (pc2 := 20) dX5_look_19 rfl ?_
    refine r_iconst (pc2 := 21) dX5_look_20 rfl ?_
    refine r_putI (z := (-1)) (pc2 := 24) dX5_look_21 rfl fX5_18 (w5_2 _) (hK_263 hS) (by decide) ?_
    refine r_aload3 (pc2 := 25) dX5_look_24 rfl ?_
    refine r_sipush (pc2 := 28) dX5_look_25 rfl (by decide) (by decide) ?_
    refine r_cv1 (pc2 := 31) dX5_look_28 rfl vX5_21 (hK_256 hS) (by decide) (c_X6_begin (d := d + 1) (z := 4000) hS ⟨by omega, by omega⟩) ?_
    rintro _ M9 ⟨rfl, h9⟩
    rw [h9]
    show Go (Ct (d + 3)) _ yX5_look cX5_look none 0 0 31 [some (.ref 263), some (.ref 19), some (.int (iI ((h : Nat) : Int))), some (.ref 256), none, none, none, none, none, none] [] (pI (pI (pI (pI (pI M 263 0 ((h : Nat) : Int)) 263 1 (-1)) 263 2 (-1)) 256 6 0) 256 7 4000)
    refine r_aload1 (pc2 := 32) dX5_look_31 rfl ?_
    refine r_getJ (z := v) (pc2 := 35) dX5_look_32 rfl fX5_27 (hK_19 hS) hv ?_
    refine r_lstore4 (pc2 := 37) dX5_look_35 rfl rfl ?_
    refine r_iload2 (pc2 := 38) dX5_look_37 rfl ?_
    refine r_istore6 (pc2 := 40) dX5_look_38 rfl rfl ?_
    refine r_iconst (pc2 := 41) dX5_look_40 rfl ?_
    refine r_istore7 (pc2 := 43) dX5_look_41 rfl rfl ?_
    refine lp_X5_look (d := d) (R := fun a b => rnd (stp pc sz tr kd co lv) 4001 0 (fun _ => (sh, h)) (sh, h) a b) (pI (pI (pI (pI (pI M 263 0 ((h : Nat) : Int)) 263 1 (-1)) 263 2 (-1)) 256 6 0) 256 7 4000) hS hB htr hkd hco hlv ⟨rfl, rfl⟩ (fun M3 M2 n A B a b hr hf hN hM => Or.inr ⟨by omega, a, b, hr, ?_⟩) 4001 0 (sh, h) (fun _ => (sh, h)) (fun _ => 0) (fun _ => 0) v _ _ _ (by omega) frS.rf (SN.start (M := (pI (pI (pI M 263 0 ((h : Nat) : Int)) 263 1 (-1)) 263 2 (-1))) hSr.1 hSr.2) rfl (fun i hi => by omega) ⟨hE, rfl, hh, hk⟩ (fun a b h9 => h9)
    have hf0 : fr [19, 256, 257, 258, 259, 260, 261, 262, 263] M (pI (pI (pI (pI (pI M 263 0 ((h : Nat) : Int)) 263 1 (-1)) 263 2 (-1)) 256 6 0) 256 7 4000) := (((((fr.rf).I (by decide)).I (by decide)).I (by decide)).I (by decide)).I (by decide)
    have hf3 : fr [19, 256, 257, 258, 259, 260, 261, 262, 263] M M3 := hf0.tr (hf.1.mono (by decide))
    have e263 : M3.2.1 263 = va_up (va_up (va_up (M.2.1 263) 0 ((h : Nat) : Int)) 1 (-1)) 2 (-1) := by rw [hf.1.i (by decide)]; rfl
    have e19 := hf.2 19 (by decide)
    rcases hM with ⟨rfl, rfl, rfl⟩ | rfl
    · refine ⟨by rw [e263]; rfl, by rw [e263]; rfl, by rw [e263]; rfl, hf3, e19.1, e19.2, hN.r⟩
    · refine ⟨rfl, rfl, ?_, (hf3.I (by decide)).I (by decide), e19.1, e19.2, hN.r⟩
      show va_up (va_up (M3.2.1 263) 1 a) 2 b 0 = _
      rw [up_ne (by decide), up_ne (by decide), e263]; rfl
  · refine r_ret dX5_look_8 rfl ?_
    exact Or.inl ⟨by omega, rfl⟩
