/-! how many TRAINS have a gate, both sides -/
noncomputable def cP (P : Nat → Prop) : Nat → Nat
  | 0 => 0
  | n + 1 => by classical exact if P n then cP P n + 1 else cP P n
theorem cP_y {P : Nat → Prop} {n : Nat} (h : P n) : cP P (n + 1) = cP P n + 1 := by rw [cP, if_pos h]
theorem cP_n {P : Nat → Prop} {n : Nat} (h : ¬ P n) : cP P (n + 1) = cP P n := by rw [cP, if_neg h]
theorem cP_le {P : Nat → Prop} : ∀ n, cP P n ≤ n := by
  intro n
  induction n with
  | zero => exact Nat.le_refl _
  | succ n ih =>
    by_cases c : P n
    · rw [cP_y c]; omega
    · rw [cP_n c]; omega
theorem cP_eq {P Q : Nat → Prop} : ∀ n, (∀ t, t < n → (P t ↔ Q t)) → cP P n = cP Q n := by
  intro n
  induction n with
  | zero => intro _; rfl
  | succ n ih =>
    intro h
    have h1 := ih (fun t ht => h t (by omega))
    by_cases c : P n
    · rw [cP_y c, cP_y ((h n (by omega)).mp c), h1]
    · rw [cP_n c, cP_n (fun q => c ((h n (by omega)).mpr q)), h1]
theorem cP_add {P Q : Nat → Prop} {t0 : Nat} (h : ∀ t, Q t ↔ P t ∨ t = t0) (h0 : ¬ P t0) : ∀ n, cP Q n = if t0 < n then cP P n + 1 else cP P n := by
  intro n
  induction n with
  | zero => rw [if_neg (by omega)]; rfl
  | succ n ih =>
    by_cases e : n = t0
    · subst e
      rw [cP_y ((h n).mpr (Or.inr rfl)), cP_n h0, ih, if_neg (by omega), if_pos (by omega)]
    · by_cases c : P n
      · rw [cP_y ((h n).mpr (Or.inl c)), cP_y c, ih]
        by_cases d : t0 < n
        · rw [if_pos d, if_pos (by omega)]
        · rw [if_neg d, if_neg (by omega)]
      · rw [cP_n (fun q => by rcases (h n).mp q with q | q; exact c q; exact e q), cP_n c, ih]
        by_cases d : t0 < n
        · rw [if_pos d, if_pos (by omega)]
        · rw [if_neg d, if_neg (by omega)]
def gtP (pc tr : Nat → Int) (n : Nat) (t : Nat) : Prop := ∃ q, q < n ∧ pc q = 4 ∧ tr q = (t : Int)
theorem gt_eq {pc tr : Nat → Int} (hr : ∀ p, p < 156 → pc p = 4 → 0 ≤ tr p ∧ tr p < 156) : ∀ n, n ≤ 156 → cP (fstG pc tr) n = cP (gtP pc tr n) 156 := by
  intro n
  induction n with
  | zero =>
    intro _
    have : ∀ m, cP (gtP pc tr 0) m = 0 := by
      intro m
      induction m with
      | zero => rfl
      | succ m ih => rw [cP_n (by rintro ⟨q, hq, -⟩; omega)]; exact ih
    rw [this]; rfl
  | succ n ih =>
    intro hn
    have h1 := ih (by omega)
    by_cases c : fstG pc tr n
    · rw [cP_y c, h1]
      have hr9 := hr n (by omega) c.1
      have h2 := cP_add (P := gtP pc tr n) (Q := gtP pc tr (n + 1)) (t0 := (tr n).toNat) (fun t => ?_) ?_ 156
      · rw [h2, if_pos (by omega)]
      · constructor
        · rintro ⟨q, q1, q2, q3⟩
          by_cases e : q = n
          · right; rw [e] at q3; omega
          · exact Or.inl ⟨q, by omega, q2, q3⟩
        · rintro (⟨q, q1, q2, q3⟩ | e)
          · exact ⟨q, by omega, q2, q3⟩
          · exact ⟨n, by omega, c.1, by omega⟩
      · rintro ⟨q, q1, q2, q3⟩
        exact c.2 q q1 ⟨q2, by omega⟩
    · rw [cP_n c, h1]
      refine cP_eq 156 (fun t ht => ⟨fun ⟨q, q1, q2, q3⟩ => ⟨q, by omega, q2, q3⟩, fun ⟨q, q1, q2, q3⟩ => ?_⟩)
      by_cases e : q = n
      · subst e
        refine Classical.byContradiction (fun d => c ⟨q2, fun k hk w => d ⟨k, hk, w.1, by omega⟩⟩)
      · exact ⟨q, by omega, q2, q3⟩
theorem tal_le {pc : Nat → Int} : ∀ n, n ≤ 156 → ∀ p, p < 156 → tal pc n p ≤ (p : Int) := by
  intro n
  induction n with
  | zero => intro _ p hp; show (-1 : Int) ≤ _; omega
  | succ n ih =>
    intro hn p hp
    have hA := tal_A (pc := pc) n (by omega)
    have hI := (tnk_I (f := n) (by omega) hA).1
    show (tnk pc n (tal pc n)).1 p ≤ _
    by_cases e : (tnk pc n (tal pc n)).1 p = (n : Int)
    · have h9 := hI.2.2.2.2 p e
      have h8 : n ≤ p := Classical.byContradiction (fun c => hA.2 p (by omega) hp h9.2.2 h9.1)
      omega
    · rw [hI.2.2.2.1 p e]; exact ih (by omega) p hp
noncomputable def gtN (D : bD) : Nat := cP (fstG D.1.1 (bT D)) 156
theorem gtN_eq (D : bD) : gtN D = cP (gtP D.1.1 (bT D) 156) 156 := gt_eq (fun p hp h4 => by
  have h9 := tal_A (pc := D.1.1) 156 (Nat.le_refl _)
  have h8 := h9.2 p hp hp (Or.inl h4)
  have h7 := h9.1 p
  show 0 ≤ tal D.1.1 156 p ∧ tal D.1.1 156 p < 156
  omega) 156 (Nat.le_refl _)
set_option maxHeartbeats 4000000 in
theorem lp_X0_gateTrains {d : Nat} {Q : pQ} {M : pM} {D : bD} {ix : Nat → Nat} (hS : sOk M.1) (hC : CS M 19 D ix) (hp : ∀ p, p < 156 → 0 ≤ D.1.1 p ∧ D.1.1 p ≤ 9) (hQ : Q (some (.int (iI ((gtN D : Nat) : Int)))) M) :
    ∀ (m q : Nat) (kn : Int64), q + m = 156 → knB D.1.1 (bT D) ix q kn → Go (Ct (d + 1)) Q yX0_gateTrains cX0_gateTrains (some .int) 0 0 7 [some (.ref 19), some (.long kn), none, some (.int (iI ((cP (fstG D.1.1 (bT D)) q : Nat) : Int))), some (.int (iI ((q : Nat) : Int)))] [] M := by
  intro m
  induction m with
  | zero =>
    intro q kn hm hk
    obtain rfl : q = 156 := by omega
    refine r_iload4 (pc2 := 9) dX0_gateTrains_7 rfl ?_
    refine r_sipush (pc2 := 12) dX0_gateTrains_9 rfl (by decide) (by decide) ?_
    refine r_icge (tgt := 44) (pc2 := 15) dX0_gateTrains_12 rfl (by decide) ⟨by omega, by omega⟩ ⟨by omega, by omega⟩ (fun b_12 => ?_) (fun b_12 => ?_)
    · refine r_iload3 (pc2 := 45) dX0_gateTrains_44 rfl ?_
      refine r_ireti dX0_gateTrains_45 rfl ?_
      exact hQ
    · exact absurd b_12 (by omega)
  | succ m ih =>
    intro q kn hm hk
    have hq : q < 156 := by omega
    have hcl := cP_le (P := fstG D.1.1 (bT D)) q
    refine r_iload4 (pc2 := 9) dX0_gateTrains_7 rfl ?_
    refine r_sipush (pc2 := 12) dX0_gateTrains_9 rfl (by decide) (by decide) ?_
    refine r_icge (tgt := 44) (pc2 := 15) dX0_gateTrains_12 rfl (by decide) ⟨by omega, by omega⟩ ⟨by omega, by omega⟩ (fun b_12 => ?_) (fun b_12 => ?_)
    · refine r_iload3 (pc2 := 45) dX0_gateTrains_44 rfl ?_
      refine r_ireti dX0_gateTrains_45 rfl ?_
      exact absurd b_12 (by omega)
    · refine r_aload0 (pc2 := 16) dX0_gateTrains_15 rfl ?_
      refine r_iload4 (pc2 := 18) dX0_gateTrains_16 rfl ?_
      refine r_lload1 (pc2 := 19) dX0_gateTrains_18 rfl ?_
      refine r_cv2 (pc2 := 22) dX0_gateTrains_19 rfl vX0_67 (hK_19 hS) (by decide) (c_X0_isFirstGate (d := d) hS isB_19 hC hq (hp q hq) hk) ?_
      rintro v M9 ⟨hM9, ⟨hf, rfl⟩ | ⟨hf, rfl⟩⟩
      · rw [hM9]
        show Go (Ct (d + 1)) _ yX0_gateTrains cX0_gateTrains (some .int) 0 0 22 [some (.ref 19), some (.long (kn)), none, some (.int (iI ((cP (fstG D.1.1 (bT D)) q : Nat) : Int))), some (.int (iI ((q : Nat) : Int)))] [.int (iI 1)] M
        refine r_ifeq (tgt := 38) (pc2 := 25) dX0_gateTrains_22 rfl (by decide) ⟨by omega, by omega⟩ (fun h9 => absurd h9 (by decide)) (fun _ => ?_)
        refine r_lload1 (pc2 := 26) dX0_gateTrains_25 rfl ?_
        refine r_aload0 (pc2 := 27) dX0_gateTrains_26 rfl ?_
        refine r_getR (pc2 := 30) dX0_gateTrains_27 rfl fX0_24 (hK_19 hS) (hR_19_4 hS) ?_
        refine r_iload4 (pc2 := 32) dX0_gateTrains_30 rfl ?_
        refine r_lald (z := (M.2.2 24 q)) (pc2 := 33) dX0_gateTrains_32 rfl (hK_24 hS) q rfl (by omega) rfl ?_
        refine r_lor (pc2 := 34) dX0_gateTrains_33 rfl ?_
        refine r_lstore1 (pc2 := 35) dX0_gateTrains_34 rfl rfl ?_
        refine r_iinc3 (z := ((cP (fstG D.1.1 (bT D)) q + 1 : Nat) : Int)) (pc2 := 38) dX0_gateTrains_35 rfl (by omega) rfl ?_
        refine r_iinc4 (z := ((q + 1 : Nat) : Int)) (pc2 := 41) dX0_gateTrains_38 rfl (by omega) rfl ?_
        refine r_goto (tgt := 7) dX0_gateTrains_41 (by decide) ?_
        have h9 := ih (q + 1) _ (by omega) (knB_yes hf.1 hk (hC.1.2.2.2.2.1 q hq hf.1))
        rw [cP_y hf] at h9
        exact h9
      · rw [hM9]
        show Go (Ct (d + 1)) _ yX0_gateTrains cX0_gateTrains (some .int) 0 0 22 [some (.ref 19), some (.long (kn)), none, some (.int (iI ((cP (fstG D.1.1 (bT D)) q : Nat) : Int))), some (.int (iI ((q : Nat) : Int)))] [.int (iI 0)] M
        refine r_ifeq (tgt := 38) (pc2 := 25) dX0_gateTrains_22 rfl (by decide) ⟨by omega, by omega⟩ (fun _ => ?_) (fun h9 => absurd h9 (by decide))
        refine r_iinc4 (z := ((q + 1 : Nat) : Int)) (pc2 := 41) dX0_gateTrains_38 rfl (by omega) rfl ?_
        refine r_goto (tgt := 7) dX0_gateTrains_41 (by decide) ?_
        have h9 := ih (q + 1) _ (by omega) (knB_no hf hk)
        rw [cP_n hf] at h9
        exact h9
set_option maxHeartbeats 4000000 in
theorem c_X0_gateTrains {d : Nat} {M : pM} {D : bD} {ix : Nat → Nat} (hS : sOk M.1) (hC : CS M 19 D ix) (hp : ∀ p, p < 156 → 0 ≤ D.1.1 p ∧ D.1.1 p ≤ 9) : Ct (d + 2) 0 0 yX0_gateTrains [.ref 19] M (fun v M2 => v = some (.int (iI ((gtN D : Nat) : Int))) ∧ M2 = M) := by
  refine ct_in (d := (d + 1)) kX0_gateTrains rfl (by decide) (Nat.le_of_ble_eq_true rfl) (by decide) ?_
  show Go (Ct (d + 1)) _ yX0_gateTrains cX0_gateTrains (some .int) 0 0 0 [some (.ref 19), none, none, none, none] [] M
  refine r_lconst (pc2 := 1) dX0_gateTrains_0 rfl ?_
  refine r_lstore1 (pc2 := 2) dX0_gateTrains_1 rfl rfl ?_
  refine r_iconst (pc2 := 3) dX0_gateTrains_2 rfl ?_
  refine r_istore3 (pc2 := 4) dX0_gateTrains_3 rfl rfl ?_
  refine r_iconst (pc2 := 5) dX0_gateTrains_4 rfl ?_
  refine r_istore4 (pc2 := 7) dX0_gateTrains_5 rfl rfl ?_
  exact lp_X0_gateTrains (d := d) hS hC hp ⟨rfl, rfl⟩ 156 0 0 (by omega) knB_0
set_option maxHeartbeats 4000000 in
theorem lp2_X12_gateTrains {d : Nat} {Q : pQ} {M : pM} {pc tr : Nat → Int} {t n : Nat} (hS : sOk M.1) (ht : t < 156) (hv : ∀ q, q < 156 → M.2.1 328 q = pc q ∧ M.2.1 335 q = tr q ∧ (0 ≤ pc q ∧ pc q ≤ 9) ∧ -1 ≤ tr q ∧ tr q < 156 ∧ tr q ≤ (q : Int)) (hn : n ≤ 156)
    (hQ : ∀ z : Int, (gtP pc tr 156 t ∧ z = 1 ∨ ¬ gtP pc tr 156 t ∧ z = 0) → Go (Ct d) Q yX12_gateTrains cX12_gateTrains (some .int) 0 0 68 [some (.ref 317), some (.int (iI ((n : Nat) : Int))), some (.int (iI ((t : Nat) : Int))), some (.int (iI z)), some (.int (iI 156))] [] M) :
    ∀ (m q : Nat) (z : Int), q + m = 156 → t ≤ q → (gtP pc tr q t ∧ z = 1 ∨ ¬ gtP pc tr q t ∧ z = 0) → Go (Ct d) Q yX12_gateTrains cX12_gateTrains (some .int) 0 0 22 [some (.ref 317), some (.int (iI ((n : Nat) : Int))), some (.int (iI ((t : Nat) : Int))), some (.int (iI z)), some (.int (iI ((q : Nat) : Int)))] [] M := by
  intro m
  induction m with
  | zero =>
    intro q z hm htq hz
    obtain rfl : q = 156 := by omega
    refine r_iload4 (pc2 := 24) dX12_gateTrains_22 rfl ?_
    refine r_sipush (pc2 := 27) dX12_gateTrains_24 rfl (by decide) (by decide) ?_
    refine r_icge (tgt := 68) (pc2 := 30) dX12_gateTrains_27 rfl (by decide) ⟨by omega, by omega⟩ ⟨by omega, by omega⟩ (fun b_27 => ?_) (fun b_27 => ?_)
    · exact hQ z hz
    · exact absurd b_27 (by omega)
  | succ m ih =>
    intro q z hm htq hz
    have h1 := hv q (by omega)
    have zr : z = 0 ∨ z = 1 := by rcases hz with ⟨-, e⟩ | ⟨-, e⟩ <;> omega
    refine r_iload4 (pc2 := 24) dX12_gateTrains_22 rfl ?_
    refine r_sipush (pc2 := 27) dX12_gateTrains_24 rfl (by decide) (by decide) ?_
    refine r_icge (tgt := 68) (pc2 := 30) dX12_gateTrains_27 rfl (by decide) ⟨by omega, by omega⟩ ⟨by omega, by omega⟩ (fun b_27 => ?_) (fun b_27 => ?_)
    · refine r_iload1 (pc2 := 69) dX12_gateTrains_68 rfl ?_
      refine r_iload3 (pc2 := 70) dX12_gateTrains_69 rfl ?_
      refine r_ifeq (tgt := 77) (pc2 := 73) dX12_gateTrains_70 rfl (by decide) ⟨by omega, by omega⟩ (fun b_70 => ?_) (fun b_70 => ?_)
      · refine r_iconst (pc2 := 78) dX12_gateTrains_77 rfl ?_
        refine r_iadd (c := (((n : Nat) : Int) + 0)) (pc2 := 79) dX12_gateTrains_78 rfl rfl ?_
        refine r_istore1 (pc2 := 80) dX12_gateTrains_79 rfl rfl ?_
        refine r_iinc2 (z := (((t : Nat) : Int) + 1)) (pc2 := 83) dX12_gateTrains_80 rfl rfl rfl ?_
        refine r_goto (tgt := 10) dX12_gateTrains_83 (by decide) ?_
        refine r_iload2 (pc2 := 11) dX12_gateTrains_10 rfl ?_
        refine r_sipush (pc2 := 14) dX12_gateTrains_11 rfl (by decide) (by decide) ?_
        refine r_icge (tgt := 86) (pc2 := 17) dX12_gateTrains_14 rfl (by decide) ⟨by omega, by omega⟩ ⟨by omega, by omega⟩ (fun b_14 => ?_) (fun b_14 => ?_)
        · refine r_iload1 (pc2 := 87) dX12_gateTrains_86 rfl ?_
          refine r_ireti dX12_gateTrains_87 rfl ?_
          exact absurd b_27 (by omega)
        · refine r_iconst (pc2 := 18) dX12_gateTrains_17 rfl ?_
          refine r_istore3 (pc2 := 19) dX12_gateTrains_18 rfl rfl ?_
          refine r_iload2 (pc2 := 20) dX12_gateTrains_19 rfl ?_
          refine r_istore4 (pc2 := 22) dX12_gateTrains_20 rfl rfl ?_
          exact absurd b_27 (by omega)
      · refine r_iconst (pc2 := 74) dX12_gateTrains_73 rfl ?_
        refine r_goto (tgt := 78) dX12_gateTrains_74 (by decide) ?_
        refine r_iadd (c := (((n : Nat) : Int) + 1)) (pc2 := 79) dX12_gateTrains_78 rfl rfl ?_
        refine r_istore1 (pc2 := 80) dX12_gateTrains_79 rfl rfl ?_
        refine r_iinc2 (z := (((t : Nat) : Int) + 1)) (pc2 := 83) dX12_gateTrains_80 rfl rfl rfl ?_
        refine r_goto (tgt := 10) dX12_gateTrains_83 (by decide) ?_
        refine r_iload2 (pc2 := 11) dX12_gateTrains_10 rfl ?_
        refine r_sipush (pc2 := 14) dX12_gateTrains_11 rfl (by decide) (by decide) ?_
        refine r_icge (tgt := 86) (pc2 := 17) dX12_gateTrains_14 rfl (by decide) ⟨by omega, by omega⟩ ⟨by omega, by omega⟩ (fun b_14 => ?_) (fun b_14 => ?_)
        · refine r_iload1 (pc2 := 87) dX12_gateTrains_86 rfl ?_
          refine r_ireti dX12_gateTrains_87 rfl ?_
          exact absurd b_27 (by omega)
        · refine r_iconst (pc2 := 18) dX12_gateTrains_17 rfl ?_
          refine r_istore3 (pc2 := 19) dX12_gateTrains_18 rfl rfl ?_
          refine r_iload2 (pc2 := 20) dX12_gateTrains_19 rfl ?_
          refine r_istore4 (pc2 := 22) dX12_gateTrains_20 rfl rfl ?_
          exact absurd b_27 (by omega)
    · refine r_iload3 (pc2 := 31) dX12_gateTrains_30 rfl ?_
      refine r_ifne (tgt := 56) (pc2 := 34) dX12_gateTrains_31 rfl (by decide) ⟨by omega, by omega⟩ (fun b_31 => ?_) (fun b_31 => ?_)
      · refine r_iconst (pc2 := 57) dX12_gateTrains_56 rfl ?_
        refine r_goto (tgt := 61) dX12_gateTrains_57 (by decide) ?_
        refine r_istore3 (pc2 := 62) dX12_gateTrains_61 rfl rfl ?_
        refine r_iinc4 (z := ((q + 1 : Nat) : Int)) (pc2 := 65) dX12_gateTrains_62 rfl (by omega) rfl ?_
        refine r_goto (tgt := 22) dX12_gateTrains_65 (by decide) ?_
        refine ih (q + 1) 1 (by omega) (by omega) (Or.inl ⟨?_, rfl⟩)
        rcases hz with ⟨⟨k, k1, k2, k3⟩, -⟩ | ⟨-, e⟩
        · exact ⟨k, by omega, k2, k3⟩
        · omega
      · refine r_aload0 (pc2 := 35) dX12_gateTrains_34 rfl ?_
        refine r_getR (pc2 := 38) dX12_gateTrains_35 rfl fX12_107 (hK_317 hS) (hR_317_29 hS) ?_
        refine r_iload4 (pc2 := 40) dX12_gateTrains_38 rfl ?_
        refine r_iald (z := (tr q)) (pc2 := 41) dX12_gateTrains_40 rfl (hK_335 hS) q rfl (by omega) h1.2.1 ?_
        refine r_iload2 (pc2 := 42) dX12_gateTrains_41 rfl ?_
        refine r_icne (tgt := 60) (pc2 := 45) dX12_gateTrains_42 rfl (by decide) ⟨by omega, by omega⟩ ⟨by omega, by omega⟩ (fun b_42 => ?_) (fun b_42 => ?_)
        · refine r_iconst (pc2 := 61) dX12_gateTrains_60 rfl ?_
          refine r_istore3 (pc2 := 62) dX12_gateTrains_61 rfl rfl ?_
          refine r_iinc4 (z := ((q + 1 : Nat) : Int)) (pc2 := 65) dX12_gateTrains_62 rfl (by omega) rfl ?_
          refine r_goto (tgt := 22) dX12_gateTrains_65 (by decide) ?_
          refine ih (q + 1) 0 (by omega) (by omega) (Or.inr ⟨?_, rfl⟩)
          rintro ⟨k, k1, k2, k3⟩
          rcases hz with ⟨-, e⟩ | ⟨e, -⟩
          · omega
          · by_cases w : k = q
            · subst w; omega
            · exact e ⟨k, by omega, k2, k3⟩
        · refine r_aload0 (pc2 := 46) dX12_gateTrains_45 rfl ?_
          refine r_getR (pc2 := 49) dX12_gateTrains_46 rfl fX12_86 (hK_317 hS) (hR_317_17 hS) ?_
          refine r_iload4 (pc2 := 51) dX12_gateTrains_49 rfl ?_
          refine r_iald (z := (pc q)) (pc2 := 52) dX12_gateTrains_51 rfl (hK_328 hS) q rfl (by omega) h1.1 ?_
          refine r_iconst (pc2 := 53) dX12_gateTrains_52 rfl ?_
          refine r_icne (tgt := 60) (pc2 := 56) dX12_gateTrains_53 rfl (by decide) ⟨by omega, by omega⟩ ⟨by omega, by omega⟩ (fun b_53 => ?_) (fun b_53 => ?_)
          · refine r_iconst (pc2 := 61) dX12_gateTrains_60 rfl ?_
            refine r_istore3 (pc2 := 62) dX12_gateTrains_61 rfl rfl ?_
            refine r_iinc4 (z := ((q + 1 : Nat) : Int)) (pc2 := 65) dX12_gateTrains_62 rfl (by omega) rfl ?_
            refine r_goto (tgt := 22) dX12_gateTrains_65 (by decide) ?_
            refine ih (q + 1) 0 (by omega) (by omega) (Or.inr ⟨?_, rfl⟩)
            rintro ⟨k, k1, k2, k3⟩
            rcases hz with ⟨-, e⟩ | ⟨e, -⟩
            · omega
            · by_cases w : k = q
              · subst w; omega
              · exact e ⟨k, by omega, k2, k3⟩
          · refine r_iconst (pc2 := 57) dX12_gateTrains_56 rfl ?_
            refine r_goto (tgt := 61) dX12_gateTrains_57 (by decide) ?_
            refine r_istore3 (pc2 := 62) dX12_gateTrains_61 rfl rfl ?_
            refine r_iinc4 (z := ((q + 1 : Nat) : Int)) (pc2 := 65) dX12_gateTrains_62 rfl (by omega) rfl ?_
            refine r_goto (tgt := 22) dX12_gateTrains_65 (by decide) ?_
            exact ih (q + 1) 1 (by omega) (by omega) (Or.inl ⟨⟨q, by omega, by omega, by omega⟩, rfl⟩)
set_option maxHeartbeats 4000000 in
theorem lp_X12_gateTrains {d : Nat} {Q : pQ} {M : pM} {pc tr : Nat → Int} (hS : sOk M.1) (hv : ∀ q, q < 156 → M.2.1 328 q = pc q ∧ M.2.1 335 q = tr q ∧ (0 ≤ pc q ∧ pc q ≤ 9) ∧ -1 ≤ tr q ∧ tr q < 156 ∧ tr q ≤ (q : Int)) (hQ : Q (some (.int (iI ((cP (gtP pc tr 156) 156 : Nat) : Int)))) M) :
    ∀ (m t : Nat) (l3 l4 : Option Value), t + m = 156 → Go (Ct d) Q yX12_gateTrains cX12_gateTrains (some .int) 0 0 10 [some (.ref 317), some (.int (iI ((cP (gtP pc tr 156) t : Nat) : Int))), some (.int (iI ((t : Nat) : Int))), l3, l4] [] M := by
  intro m
  induction m with
  | zero =>
    intro t l3 l4 hm
    obtain rfl : t = 156 := by omega
    refine r_iload2 (pc2 := 11) dX12_gateTrains_10 rfl ?_
    refine r_sipush (pc2 := 14) dX12_gateTrains_11 rfl (by decide) (by decide) ?_
    refine r_icge (tgt := 86) (pc2 := 17) dX12_gateTrains_14 rfl (by decide) ⟨by omega, by omega⟩ ⟨by omega, by omega⟩ (fun b_14 => ?_) (fun b_14 => ?_)
    · refine r_iload1 (pc2 := 87) dX12_gateTrains_86 rfl ?_
      refine r_ireti dX12_gateTrains_87 rfl ?_
      exact hQ
    · exact absurd b_14 (by omega)
  | succ m ih =>
    intro t l3 l4 hm
    have hcl := cP_le (P := gtP pc tr 156) t
    refine r_iload2 (pc2 := 11) dX12_gateTrains_10 rfl ?_
    refine r_sipush (pc2 := 14) dX12_gateTrains_11 rfl (by decide) (by decide) ?_
    refine r_icge (tgt := 86) (pc2 := 17) dX12_gateTrains_14 rfl (by decide) ⟨by omega, by omega⟩ ⟨by omega, by omega⟩ (fun b_14 => ?_) (fun b_14 => ?_)
    · refine r_iload1 (pc2 := 87) dX12_gateTrains_86 rfl ?_
      refine r_ireti dX12_gateTrains_87 rfl ?_
      exact absurd b_14 (by omega)
    · refine r_iconst (pc2 := 18) dX12_gateTrains_17 rfl ?_
      refine r_istore3 (pc2 := 19) dX12_gateTrains_18 rfl rfl ?_
      refine r_iload2 (pc2 := 20) dX12_gateTrains_19 rfl ?_
      refine r_istore4 (pc2 := 22) dX12_gateTrains_20 rfl rfl ?_
      refine lp2_X12_gateTrains (d := d) (pc := pc) (tr := tr) hS (by omega) hv (by omega) (fun z hz => ?_) (156 - t) t 0 (by omega) (Nat.le_refl _) (Or.inr ⟨?_, rfl⟩)
      · have zr : z = 0 ∨ z = 1 := by rcases hz with ⟨-, e⟩ | ⟨-, e⟩ <;> omega
        refine r_iload1 (pc2 := 69) dX12_gateTrains_68 rfl ?_
        refine r_iload3 (pc2 := 70) dX12_gateTrains_69 rfl ?_
        refine r_ifeq (tgt := 77) (pc2 := 73) dX12_gateTrains_70 rfl (by decide) ⟨by omega, by omega⟩ (fun b_70 => ?_) (fun b_70 => ?_)
        · refine r_iconst (pc2 := 78) dX12_gateTrains_77 rfl ?_
          refine r_iadd (c := ((cP (gtP pc tr 156) t : Nat) : Int)) (pc2 := 79) dX12_gateTrains_78 rfl (by omega) ?_
          refine r_istore1 (pc2 := 80) dX12_gateTrains_79 rfl rfl ?_
          refine r_iinc2 (z := ((t + 1 : Nat) : Int)) (pc2 := 83) dX12_gateTrains_80 rfl (by omega) rfl ?_
          refine r_goto (tgt := 10) dX12_gateTrains_83 (by decide) ?_
          rcases hz with ⟨-, e⟩ | ⟨e, -⟩
          · exact absurd b_70 (by omega)
          · have h9 := ih (t + 1) (some (.int (iI z))) (some (.int (iI 156))) (by omega)
            rw [cP_n e] at h9
            exact h9
        · refine r_iconst (pc2 := 74) dX12_gateTrains_73 rfl ?_
          refine r_goto (tgt := 78) dX12_gateTrains_74 (by decide) ?_
          refine r_iadd (c := ((cP (gtP pc tr 156) t + 1 : Nat) : Int)) (pc2 := 79) dX12_gateTrains_78 rfl (by omega) ?_
          refine r_istore1 (pc2 := 80) dX12_gateTrains_79 rfl rfl ?_
          refine r_iinc2 (z := ((t + 1 : Nat) : Int)) (pc2 := 83) dX12_gateTrains_80 rfl (by omega) rfl ?_
          refine r_goto (tgt := 10) dX12_gateTrains_83 (by decide) ?_
          rcases hz with ⟨e, -⟩ | ⟨-, e⟩
          · have h9 := ih (t + 1) (some (.int (iI z))) (some (.int (iI 156))) (by omega)
            rw [cP_y e] at h9
            exact h9
          · exact absurd e b_70
      · rintro ⟨k, k1, k2, k3⟩
        have := (hv k (by omega)).2.2.2.2.2
        omega
set_option maxHeartbeats 4000000 in
theorem c_X12_gateTrains {d : Nat} {M : pM} {B : Nat → bS} (hS : sOk M.1) (hB : MB M B) (hk : bK (B 0).1 (B 0).2) : Ct (d + 3) 0 0 yX12_gateTrains [.ref 317] M (fun v M2 => v = some (.int (iI ((gtN (B 0).1 : Nat) : Int))) ∧ fr [335, 336] M M2) := by
  refine ct_in (d := (d + 2)) kX12_gateTrains rfl (by decide) (Nat.le_of_ble_eq_true rfl) (by decide) ?_
  show Go (Ct (d + 2)) _ yX12_gateTrains cX12_gateTrains (some .int) 0 0 0 [some (.ref 317), none, none, none, none] [] M
  refine r_aload0 (pc2 := 1) dX12_gateTrains_0 rfl ?_
  refine r_iconst (pc2 := 2) dX12_gateTrains_1 rfl ?_
  refine r_iconst (pc2 := 3) dX12_gateTrains_2 rfl ?_
  refine r_cv2 (pc2 := 6) dX12_gateTrains_3 rfl vX12_309 (hK_317 hS) (by decide) (c_X12_findTrains (d := d) (b := 0) (sl := 0) (pc := (B 0).1.1.1) hS (by decide) (by decide) (fun q hq => ⟨((hB 0 (by omega)).1 q hq).1, bK_pc hk q hq⟩)) ?_
  rintro _ M1 ⟨rfl, f1, e1⟩
  have hS1 := f1.ok hS
  show Go (Ct (d + 2)) _ yX12_gateTrains cX12_gateTrains (some .int) 0 0 6 [some (.ref 317), none, none, none, none] [] M1
  refine r_iconst (pc2 := 7) dX12_gateTrains_6 rfl ?_
  refine r_istore1 (pc2 := 8) dX12_gateTrains_7 rfl rfl ?_
  refine r_iconst (pc2 := 9) dX12_gateTrains_8 rfl ?_
  refine r_istore2 (pc2 := 10) dX12_gateTrains_9 rfl rfl ?_
  rw [gtN_eq]
  refine lp_X12_gateTrains (d := d + 2) (pc := (B 0).1.1.1) (tr := bT (B 0).1) hS1 (fun q hq => ?_) ⟨rfl, f1⟩ 156 0 _ _ (by omega)
  have h8 := ((hB 0 (by omega)).1 q hq).1
  have h7 : M1.2.1 335 (156 * 0 + q) = bT (B 0).1 q := (by rw [e1, sB_in hq])
  rw [show 156 * 0 + q = q by omega] at h8 h7
  exact ⟨by rw [f1.i (by decide)]; exact h8, h7, bK_pc hk q hq, (bT_r _ q).1, (bT_r _ q).2, tal_le 156 (Nat.le_refl _) q hq⟩
