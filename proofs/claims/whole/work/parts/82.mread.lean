/-! the model's readLines: it goes the steps of the reading -/
def stn (T : tD) : Nat → pS2 → pS2 → Prop
  | 0, a, b => a = b
  | j + 1, a, b => ¬ rdn T a ∧ stn T j (pst T a) b
theorem stn_tr {T : tD} : ∀ {j k : Nat} {a b c : pS2}, stn T j a b → stn T k b c → stn T (j + k) a c := by
  intro j
  induction j with
  | zero => intro k a b c h1 h2; rw [show a = b from h1, Nat.zero_add]; exact h2
  | succ j ih => intro k a b c h1 h2; rw [Nat.succ_add]; exact ⟨h1.1, ih h1.2 h2⟩
theorem stn_itr {T : tD} : ∀ {j m : Nat} {a b : pS2}, stn T j a b → itr T (j + m) a = itr T m b := by
  intro j
  induction j with
  | zero => intro m a b h; rw [show a = b from h, Nat.zero_add]
  | succ j ih => intro m a b h; rw [Nat.succ_add, itr_n h.1]; exact ih h.2
theorem nrd {T : tD} {x : pS2} (h0 : x.1.2 = 0) (h : ¬ kK T x.1.1 = 22 ∨ 0 < gD x.2) : ¬ rdn T x := by
  rintro (q | ⟨q1, q2⟩)
  · exact q h0
  · rcases h with h | h
    · exact h q1
    · omega
theorem stn_st {T : tD} (hT : tOk T) : ∀ {j : Nat} {a b : pS2}, rSt T a → stn T j a b → rSt T b ∧ (b.1.2 = 0 → a.1.1 + j ≤ b.1.1) := by
  intro j
  induction j with
  | zero => intro a b h e; rw [← show a = b from e]; exact ⟨h, fun _ => Nat.le_refl _⟩
  | succ j ih =>
    intro a b h e
    have h0 : a.1.2 = 0 := Classical.byContradiction (fun q => e.1 (Or.inl q))
    have h1 := h.s hT h0
    have h2 := ih h1.1 e.2
    refine ⟨h2.1, fun q => ?_⟩
    have h3 := h2.2 q
    cases j with
    | zero =>
      have e2 : pst T a = b := e.2
      rw [e2] at h1
      have := h1.2 q
      omega
    | succ j =>
      have h4 : (pst T a).1.2 = 0 := Classical.byContradiction (fun q => e.2.1 (Or.inl q))
      have := h1.2 h4
      omega
/-- the same LINES stand open -/
def sst (G G2 : gPr) : Prop := gD G2 = gD G ∧ (∀ q, q < gD G → gO G2 q = gO G q) ∧ gS G ≤ gS G2 ∧ (∀ i, i < gS G → gA G2 i = gA G i) ∧ (0 < gD G → gT G2 = gT G ∧ gN G2 = gN G ∧ gL G2 = gL G)
theorem sst.rf {G : gPr} : sst G G := ⟨rfl, fun _ _ => rfl, Nat.le_refl _, fun _ _ => rfl, fun _ => ⟨rfl, rfl, rfl⟩⟩
theorem sst.tr {G G1 G2 : gPr} (h : sst G G1) (h2 : sst G1 G2) : sst G G2 := ⟨h2.1.trans h.1, fun q hq => (h2.2.1 q (by rw [h.1]; exact hq)).trans (h.2.1 q hq), Nat.le_trans h.2.2.1 h2.2.2.1, fun i hi => (h2.2.2.2.1 i (Nat.lt_of_lt_of_le hi h.2.2.1)).trans (h.2.2.2.1 i hi), fun q => ⟨(h2.2.2.2.2 (by rw [h.1]; exact q)).1.trans (h.2.2.2.2 q).1, (h2.2.2.2.2 (by rw [h.1]; exact q)).2.1.trans (h.2.2.2.2 q).2.1, (h2.2.2.2.2 (by rw [h.1]; exact q)).2.2.trans (h.2.2.2.2 q).2.2⟩⟩
theorem sst.line {G : gPr} {a x y z w : Int} : sst G (gLine G a x y z w) := ⟨rfl, fun _ _ => rfl, Nat.le_succ _, fun i hi => up_ne (by omega), fun _ => ⟨rfl, rfl, rfl⟩⟩
theorem sst.nst {G G2 : gPr} (hg : gOk G) (h : sst G G2) : nst G2 = nst G ∧ iL G2 = iL G := by
  have e : iL G2 = iL G := by
    by_cases q : gD G = 0
    · have h1 := iL_D (G := G); have h2 := iL_D (G := G2); have := h.1; omega
    · have e1 : gO G2 0 = gO G 0 := h.2.1 0 (by omega)
      have e2 : gA G2 (gO G2 0) = gA G (gO G 0) := by rw [e1]; exact h.2.2.2.1 _ (hg.2.2.2.1 0 (by omega))
      unfold iL
      rw [e2, h.1]
  exact ⟨by rw [nst_e, nst_e, e, h.1], e⟩
def lst (T : tD) (x : pS2) : Prop := kK T x.1.1 = 10 ∨ kK T x.1.1 = 11 ∨ kK T x.1.1 = 12 ∨ kK T x.1.1 = 14 ∨ (gD x.2 = 0 ∧ (kK T x.1.1 = 13 ∨ kK T x.1.1 = 15 ∨ kK T x.1.1 = 16))
def LNq (T : tD) (M M2 : pM) (x : pS2) : Prop := ∃ j y M3 r5, stn T (j + 1) x y ∧ M2 = mM M3 r5 ∧ frP M M3 ∧ rOk T r5 ∧ rK T 59 r5 = y.1 ∧ (r5.2 = 0 → MG M3 y.2) ∧ (y.1.2 = 0 → sst x.2 y.2)
def RLq (T : tD) (M M2 : pM) (x : pS2) : Prop := ∃ j y M3, stn T j x y ∧ M2 = mM M3 y.1 ∧ frP M M3 ∧ (y.1.2 = 0 → MG M3 y.2 ∧ sst x.2 y.2 ∧ ¬ lst T y)
/-- the model stands at a state of the reading -/
def mSt (M : pM) (T : tD) (r : rdT) (G : gPr) : Prop := sOk M.1 ∧ tOk T ∧ mT M T ∧ mWd M ∧ rSt T (r, G) ∧ r.2 = 0 ∧ MG M G
def RLp (n e : Nat) : Prop := ∀ (M : pM) (T : tD) (r : rdT) (G : gPr), mSt M T r G → gD G + e = 5 → Ct (n + 6) 0 0 yX12_readLines [.ref 317, .int (iI ((nst G : Nat) : Int)), .int (iI (if gD G = 0 then 1 else 0))] (mM M r) (fun v M2 => v = none ∧ RLq T M M2 (r, G))
def BLp (n e : Nat) : Prop := ∀ (M : pM) (T : tD) (r : rdT) (G : gPr), mSt M T r G → gD G + e = 5 → kK T r.1 = 11 ∨ kK T r.1 = 12 → Ct (n + 5) 0 0 yX12_readBlock [.ref 317, .int (iI ((nst G : Nat) : Int))] (mM M r) (fun v M2 => v = none ∧ LNq T M M2 (r, G))
def LTp (n : Nat) : Prop := ∀ (M : pM) (T : tD) (r : rdT) (G : gPr), mSt M T r G → gD G = 0 → kK T r.1 = 13 → Ct (n + 5) 0 0 yX12_readLet [.ref 317] (mM M r) (fun v M2 => v = none ∧ LNq T M M2 (r, G))
theorem mPo.ln {T : tD} {M M2 : pM} {r : rdT} {G : gPr} {x : pS2} (h : mPo T M M2 x) (h0 : r.2 = 0) (hk : ¬ kK T r.1 = 22) (hx : pst T (r, G) = x) (hs : sst G x.2) : LNq T M M2 (r, G) := by
  obtain ⟨M3, r5, h1, h2, h3, h4, h5⟩ := h
  exact ⟨0, x, M3, r5, ⟨nrd h0 (Or.inl hk), hx⟩, h1, h2, h3, h4, h5, fun _ => hs⟩
theorem pst_10 {T : tD} {r : rdT} {G : gPr} (h : kK T r.1 = 10) : pst T (r, G) = lPut T r G := by unfold pst; dsimp only; rw [if_pos h]
theorem pst_11 {T : tD} {r : rdT} {G : gPr} (h : kK T r.1 = 11) : pst T (r, G) = lAgain T r G := by unfold pst; dsimp only; rw [h]; rfl
theorem pst_12 {T : tD} {r : rdT} {G : gPr} (h : kK T r.1 = 12) : pst T (r, G) = lMirror T r G := by unfold pst; dsimp only; rw [h]; rfl
theorem pst_13 {T : tD} {r : rdT} {G : gPr} (h : kK T r.1 = 13) : pst T (r, G) = lLet T r G := by unfold pst; dsimp only; rw [h]; rfl
theorem pst_14 {T : tD} {r : rdT} {G : gPr} (h : kK T r.1 = 14) : pst T (r, G) = lUse T r G := by unfold pst; dsimp only; rw [h]; rfl
theorem pst_15 {T : tD} {r : rdT} {G : gPr} (h : kK T r.1 = 15) : pst T (r, G) = lLane T r G := by unfold pst; dsimp only; rw [h]; rfl
theorem pst_16 {T : tD} {r : rdT} {G : gPr} (h : kK T r.1 = 16) : pst T (r, G) = lHopper T r G := by unfold pst; dsimp only; rw [h]; rfl
/-- behind LINES within ( ): what ends them, or what can't stand there -/
theorem pst_cl {T : tD} {r : rdT} {G : gPr} (ho : rOk T r) (h0 : r.2 = 0) (hD : 0 < gD G) (hn : ¬ lst T (r, G)) : (pst T (r, G)).1 = rK T 59 (rK T 41 r) ∧ ((rK T 41 r).2 = 0 → pst T (r, G) = lClose T r G) := by
  have hf : ¬ (fl T 1 r).2 = 0 := fl_f (by omega) ho.2.1
  have hc : cOu T r G = fl T 1 r := if_pos hD
  by_cases k13 : kK T r.1 = 13
  · have e1 : rK T 41 r = fl T 1 r := by rw [rK, if_neg (by omega), av_n hf]
    refine ⟨?_, fun q => absurd (by rw [← e1]; exact q) hf⟩
    rw [pst_13 k13, e1, rK_n hf]
    unfold lLet
    dsimp only
    rw [hc, fl_n hf]
    have e2 : (if 30 ≤ gT G then fl T 1 r else fl T 1 r) = fl T 1 r := by split <;> rfl
    rw [e2, av_n hf, fl_n hf]
    have e3 : (if kK T (fl T 1 r).1 = 18 then fl T 1 r else fl T 1 r) = fl T 1 r := by split <;> rfl
    rw [e3, fl_n hf]
    have e4 : (if fnN G (kI T (fl T 1 r).1) = -1 then fl T 1 r else fl T 1 r) = fl T 1 r := by split <;> rfl
    rw [e4, av_n hf, rK_n hf]
  by_cases k15 : kK T r.1 = 15
  · have e1 : rK T 41 r = fl T 1 r := by rw [rK, if_neg (by omega), av_n hf]
    refine ⟨?_, fun q => absurd (by rw [← e1]; exact q) hf⟩
    rw [pst_15 k15, e1, rK_n hf]
    unfold lLane
    dsimp only
    rw [hc, av_n hf, rN_n hf, rN_n hf, rK_n hf]
  by_cases k16 : kK T r.1 = 16
  · have e1 : rK T 41 r = fl T 1 r := by rw [rK, if_neg (by omega), av_n hf]
    refine ⟨?_, fun q => absurd (by rw [← e1]; exact q) hf⟩
    rw [pst_16 k16, e1, rK_n hf]
    unfold lHopper
    dsimp only
    rw [hc, av_n hf, rN_n hf, rN_n hf, rN_n hf, rN_n hf, rK_n hf]
  · have e : pst T (r, G) = lClose T r G := by
      unfold lst at hn
      unfold pst
      dsimp only at hn ⊢
      rw [if_neg (by omega), if_neg (by omega), if_neg (by omega), if_neg k13, if_neg (by omega), if_neg k15, if_neg k16]
    refine ⟨?_, fun _ => e⟩
    rw [e]
    unfold lClose
    rw [if_neg (by omega)]

set_option maxHeartbeats 4000000 in
theorem c_X12_readLinesF {d : Nat} {M : pM} {T : tD} {r : rdT} {a b : Int} (hS : sOk M.1) (hT : tOk T) (hC : mT M T) (hW : mWd M) (o_r : rOk T r) (hf : ¬ r.2 = 0) (hb : b = 0 ∨ b = 1) : Ct (d + 6) 0 0 yX12_readLines [.ref 317, .int (iI a), .int (iI b)] (mM M r) (fun v M2 => v = none ∧ M2 = mM M r) := by
  refine ct_in (d := (d + 5)) kX12_readLines rfl (by decide) (Nat.le_of_ble_eq_true rfl) (by decide) ?_
  show Go (Ct (d + 5)) _ yX12_readLines cX12_readLines none 0 0 0 [some (.ref 317), some (.int (iI a)), some (.int (iI b)), none] [] (mM M r)
  refine r_iconst (pc2 := 1) dX12_readLines_0 rfl ?_
  refine r_istore3 (pc2 := 2) dX12_readLines_1 rfl rfl ?_
  refine r_iload3 (pc2 := 3) dX12_readLines_2 rfl ?_
  refine r_ifeq (tgt := 139) (pc2 := 6) dX12_readLines_3 rfl (by decide) ⟨by omega, by omega⟩ (fun h9 => absurd h9 (by decide)) (fun _ => ?_)
  refine r_aload0 (pc2 := 7) dX12_readLines_6 rfl ?_
  refine r_iconst (pc2 := 8) dX12_readLines_7 rfl ?_
  refine r_cv1 (pc2 := 11) dX12_readLines_8 rfl vX12_192 (hK_317 hS) (by decide) (c_X12_isWord (d := d + 4) (M := M) (r := r) (w := 0) hS hT hC o_r hW (by omega)) ?_
  rintro _ M9 ⟨h9, ⟨hq, rfl⟩ | ⟨-, rfl⟩⟩
  · exact absurd hq.1 hf
  rw [h9]
  show Go (Ct (d + 5)) _ yX12_readLines cX12_readLines none 0 0 11 [some (.ref 317), some (.int (iI a)), some (.int (iI b)), some (.int (iI 1))] [.int (iI 0)] (mM M r)
  refine r_ifeq (tgt := 21) (pc2 := 14) dX12_readLines_11 rfl (by decide) ⟨by omega, by omega⟩ (fun _ => ?_) (fun h9 => absurd h9 (by decide))
  refine r_aload0 (pc2 := 22) dX12_readLines_21 rfl ?_
  refine r_iconst (pc2 := 23) dX12_readLines_22 rfl ?_
  refine r_cv1 (pc2 := 26) dX12_readLines_23 rfl vX12_192 (hK_317 hS) (by decide) (c_X12_isWord (d := d + 4) (M := M) (r := r) (w := 1) hS hT hC o_r hW (by omega)) ?_
  rintro _ M9 ⟨h9, ⟨hq, rfl⟩ | ⟨-, rfl⟩⟩
  · exact absurd hq.1 hf
  rw [h9]
  show Go (Ct (d + 5)) _ yX12_readLines cX12_readLines none 0 0 26 [some (.ref 317), some (.int (iI a)), some (.int (iI b)), some (.int (iI 1))] [.int (iI 0)] (mM M r)
  refine r_ifne (tgt := 37) (pc2 := 29) dX12_readLines_26 rfl (by decide) ⟨by omega, by omega⟩ (fun h9 => absurd h9 (by decide)) (fun _ => ?_)
  refine r_aload0 (pc2 := 30) dX12_readLines_29 rfl ?_
  refine r_iconst (pc2 := 31) dX12_readLines_30 rfl ?_
  refine r_cv1 (pc2 := 34) dX12_readLines_31 rfl vX12_192 (hK_317 hS) (by decide) (c_X12_isWord (d := d + 4) (M := M) (r := r) (w := 2) hS hT hC o_r hW (by omega)) ?_
  rintro _ M9 ⟨h9, ⟨hq, rfl⟩ | ⟨-, rfl⟩⟩
  · exact absurd hq.1 hf
  rw [h9]
  show Go (Ct (d + 5)) _ yX12_readLines cX12_readLines none 0 0 34 [some (.ref 317), some (.int (iI a)), some (.int (iI b)), some (.int (iI 1))] [.int (iI 0)] (mM M r)
  refine r_ifeq (tgt := 45) (pc2 := 37) dX12_readLines_34 rfl (by decide) ⟨by omega, by omega⟩ (fun _ => ?_) (fun h9 => absurd h9 (by decide))
  refine r_aload0 (pc2 := 46) dX12_readLines_45 rfl ?_
  refine r_iconst (pc2 := 47) dX12_readLines_46 rfl ?_
  refine r_cv1 (pc2 := 50) dX12_readLines_47 rfl vX12_192 (hK_317 hS) (by decide) (c_X12_isWord (d := d + 4) (M := M) (r := r) (w := 4) hS hT hC o_r hW (by omega)) ?_
  rintro _ M9 ⟨h9, ⟨hq, rfl⟩ | ⟨-, rfl⟩⟩
  · exact absurd hq.1 hf
  rw [h9]
  show Go (Ct (d + 5)) _ yX12_readLines cX12_readLines none 0 0 50 [some (.ref 317), some (.int (iI a)), some (.int (iI b)), some (.int (iI 1))] [.int (iI 0)] (mM M r)
  refine r_ifeq (tgt := 60) (pc2 := 53) dX12_readLines_50 rfl (by decide) ⟨by omega, by omega⟩ (fun _ => ?_) (fun h9 => absurd h9 (by decide))
  refine r_iload2 (pc2 := 61) dX12_readLines_60 rfl ?_
  refine r_ifeq (tgt := 79) (pc2 := 64) dX12_readLines_61 rfl (by decide) ⟨by omega, by omega⟩ (fun b_61 => ?_) (fun b_61 => ?_)
  · refine r_iload2 (pc2 := 80) dX12_readLines_79 rfl ?_
    refine r_ifeq (tgt := 107) (pc2 := 83) dX12_readLines_80 rfl (by decide) ⟨by omega, by omega⟩ (fun b_80 => ?_) (fun b_80 => ?_)
    · refine r_iconst (pc2 := 108) dX12_readLines_107 rfl ?_
      refine r_istore3 (pc2 := 109) dX12_readLines_108 rfl rfl ?_
      refine r_iload3 (pc2 := 110) dX12_readLines_109 rfl ?_
      refine r_ifeq (tgt := 119) (pc2 := 113) dX12_readLines_110 rfl (by decide) ⟨by omega, by omega⟩ (fun _ => ?_) (fun h9 => absurd h9 (by decide))
      refine r_iload3 (pc2 := 120) dX12_readLines_119 rfl ?_
      refine r_ifeq (tgt := 134) (pc2 := 123) dX12_readLines_120 rfl (by decide) ⟨by omega, by omega⟩ (fun _ => ?_) (fun h9 => absurd h9 (by decide))
      refine r_iconst (pc2 := 135) dX12_readLines_134 rfl ?_
      refine r_istore3 (pc2 := 136) dX12_readLines_135 rfl rfl ?_
      refine r_goto (tgt := 2) dX12_readLines_136 (by decide) ?_
      refine r_iload3 (pc2 := 3) dX12_readLines_2 rfl ?_
      refine r_ifeq (tgt := 139) (pc2 := 6) dX12_readLines_3 rfl (by decide) ⟨by omega, by omega⟩ (fun _ => ?_) (fun h9 => absurd h9 (by decide))
      refine r_ret dX12_readLines_139 rfl ?_
      exact ⟨rfl, rfl⟩
    · refine r_aload0 (pc2 := 84) dX12_readLines_83 rfl ?_
      refine r_iconst (pc2 := 85) dX12_readLines_84 rfl ?_
      refine r_cv1 (pc2 := 88) dX12_readLines_85 rfl vX12_192 (hK_317 hS) (by decide) (c_X12_isWord (d := d + 4) (M := M) (r := r) (w := 5) hS hT hC o_r hW (by omega)) ?_
      rintro _ M9 ⟨h9, ⟨hq, rfl⟩ | ⟨-, rfl⟩⟩
      · exact absurd hq.1 hf
      rw [h9]
      show Go (Ct (d + 5)) _ yX12_readLines cX12_readLines none 0 0 88 [some (.ref 317), some (.int (iI a)), some (.int (iI b)), some (.int (iI 1))] [.int (iI 0)] (mM M r)
      refine r_ifne (tgt := 100) (pc2 := 91) dX12_readLines_88 rfl (by decide) ⟨by omega, by omega⟩ (fun h9 => absurd h9 (by decide)) (fun _ => ?_)
      refine r_aload0 (pc2 := 92) dX12_readLines_91 rfl ?_
      refine r_bipush (pc2 := 94) dX12_readLines_92 rfl (by decide) (by decide) ?_
      refine r_cv1 (pc2 := 97) dX12_readLines_94 rfl vX12_192 (hK_317 hS) (by decide) (c_X12_isWord (d := d + 4) (M := M) (r := r) (w := 6) hS hT hC o_r hW (by omega)) ?_
      rintro _ M9 ⟨h9, ⟨hq, rfl⟩ | ⟨-, rfl⟩⟩
      · exact absurd hq.1 hf
      rw [h9]
      show Go (Ct (d + 5)) _ yX12_readLines cX12_readLines none 0 0 97 [some (.ref 317), some (.int (iI a)), some (.int (iI b)), some (.int (iI 1))] [.int (iI 0)] (mM M r)
      refine r_ifeq (tgt := 107) (pc2 := 100) dX12_readLines_97 rfl (by decide) ⟨by omega, by omega⟩ (fun _ => ?_) (fun h9 => absurd h9 (by decide))
      refine r_iconst (pc2 := 108) dX12_readLines_107 rfl ?_
      refine r_istore3 (pc2 := 109) dX12_readLines_108 rfl rfl ?_
      refine r_iload3 (pc2 := 110) dX12_readLines_109 rfl ?_
      refine r_ifeq (tgt := 119) (pc2 := 113) dX12_readLines_110 rfl (by decide) ⟨by omega, by omega⟩ (fun _ => ?_) (fun h9 => absurd h9 (by decide))
      refine r_iload3 (pc2 := 120) dX12_readLines_119 rfl ?_
      refine r_ifeq (tgt := 134) (pc2 := 123) dX12_readLines_120 rfl (by decide) ⟨by omega, by omega⟩ (fun _ => ?_) (fun h9 => absurd h9 (by decide))
      refine r_iconst (pc2 := 135) dX12_readLines_134 rfl ?_
      refine r_istore3 (pc2 := 136) dX12_readLines_135 rfl rfl ?_
      refine r_goto (tgt := 2) dX12_readLines_136 (by decide) ?_
      refine r_iload3 (pc2 := 3) dX12_readLines_2 rfl ?_
      refine r_ifeq (tgt := 139) (pc2 := 6) dX12_readLines_3 rfl (by decide) ⟨by omega, by omega⟩ (fun _ => ?_) (fun h9 => absurd h9 (by decide))
      refine r_ret dX12_readLines_139 rfl ?_
      exact ⟨rfl, rfl⟩
  · refine r_aload0 (pc2 := 65) dX12_readLines_64 rfl ?_
    refine r_iconst (pc2 := 66) dX12_readLines_65 rfl ?_
    refine r_cv1 (pc2 := 69) dX12_readLines_66 rfl vX12_192 (hK_317 hS) (by decide) (c_X12_isWord (d := d + 4) (M := M) (r := r) (w := 3) hS hT hC o_r hW (by omega)) ?_
    rintro _ M9 ⟨h9, ⟨hq, rfl⟩ | ⟨-, rfl⟩⟩
    · exact absurd hq.1 hf
    rw [h9]
    show Go (Ct (d + 5)) _ yX12_readLines cX12_readLines none 0 0 69 [some (.ref 317), some (.int (iI a)), some (.int (iI b)), some (.int (iI 1))] [.int (iI 0)] (mM M r)
    refine r_ifeq (tgt := 79) (pc2 := 72) dX12_readLines_69 rfl (by decide) ⟨by omega, by omega⟩ (fun _ => ?_) (fun h9 => absurd h9 (by decide))
    refine r_iload2 (pc2 := 80) dX12_readLines_79 rfl ?_
    refine r_ifeq (tgt := 107) (pc2 := 83) dX12_readLines_80 rfl (by decide) ⟨by omega, by omega⟩ (fun b_80 => ?_) (fun b_80 => ?_)
    · refine r_iconst (pc2 := 108) dX12_readLines_107 rfl ?_
      refine r_istore3 (pc2 := 109) dX12_readLines_108 rfl rfl ?_
      refine r_iload3 (pc2 := 110) dX12_readLines_109 rfl ?_
      refine r_ifeq (tgt := 119) (pc2 := 113) dX12_readLines_110 rfl (by decide) ⟨by omega, by omega⟩ (fun _ => ?_) (fun h9 => absurd h9 (by decide))
      refine r_iload3 (pc2 := 120) dX12_readLines_119 rfl ?_
      refine r_ifeq (tgt := 134) (pc2 := 123) dX12_readLines_120 rfl (by decide) ⟨by omega, by omega⟩ (fun _ => ?_) (fun h9 => absurd h9 (by decide))
      refine r_iconst (pc2 := 135) dX12_readLines_134 rfl ?_
      refine r_istore3 (pc2 := 136) dX12_readLines_135 rfl rfl ?_
      refine r_goto (tgt := 2) dX12_readLines_136 (by decide) ?_
      refine r_iload3 (pc2 := 3) dX12_readLines_2 rfl ?_
      refine r_ifeq (tgt := 139) (pc2 := 6) dX12_readLines_3 rfl (by decide) ⟨by omega, by omega⟩ (fun _ => ?_) (fun h9 => absurd h9 (by decide))
      refine r_ret dX12_readLines_139 rfl ?_
      exact ⟨rfl, rfl⟩
    · refine r_aload0 (pc2 := 84) dX12_readLines_83 rfl ?_
      refine r_iconst (pc2 := 85) dX12_readLines_84 rfl ?_
      refine r_cv1 (pc2 := 88) dX12_readLines_85 rfl vX12_192 (hK_317 hS) (by decide) (c_X12_isWord (d := d + 4) (M := M) (r := r) (w := 5) hS hT hC o_r hW (by omega)) ?_
      rintro _ M9 ⟨h9, ⟨hq, rfl⟩ | ⟨-, rfl⟩⟩
      · exact absurd hq.1 hf
      rw [h9]
      show Go (Ct (d + 5)) _ yX12_readLines cX12_readLines none 0 0 88 [some (.ref 317), some (.int (iI a)), some (.int (iI b)), some (.int (iI 1))] [.int (iI 0)] (mM M r)
      refine r_ifne (tgt := 100) (pc2 := 91) dX12_readLines_88 rfl (by decide) ⟨by omega, by omega⟩ (fun h9 => absurd h9 (by decide)) (fun _ => ?_)
      refine r_aload0 (pc2 := 92) dX12_readLines_91 rfl ?_
      refine r_bipush (pc2 := 94) dX12_readLines_92 rfl (by decide) (by decide) ?_
      refine r_cv1 (pc2 := 97) dX12_readLines_94 rfl vX12_192 (hK_317 hS) (by decide) (c_X12_isWord (d := d + 4) (M := M) (r := r) (w := 6) hS hT hC o_r hW (by omega)) ?_
      rintro _ M9 ⟨h9, ⟨hq, rfl⟩ | ⟨-, rfl⟩⟩
      · exact absurd hq.1 hf
      rw [h9]
      show Go (Ct (d + 5)) _ yX12_readLines cX12_readLines none 0 0 97 [some (.ref 317), some (.int (iI a)), some (.int (iI b)), some (.int (iI 1))] [.int (iI 0)] (mM M r)
      refine r_ifeq (tgt := 107) (pc2 := 100) dX12_readLines_97 rfl (by decide) ⟨by omega, by omega⟩ (fun _ => ?_) (fun h9 => absurd h9 (by decide))
      refine r_iconst (pc2 := 108) dX12_readLines_107 rfl ?_
      refine r_istore3 (pc2 := 109) dX12_readLines_108 rfl rfl ?_
      refine r_iload3 (pc2 := 110) dX12_readLines_109 rfl ?_
      refine r_ifeq (tgt := 119) (pc2 := 113) dX12_readLines_110 rfl (by decide) ⟨by omega, by omega⟩ (fun _ => ?_) (fun h9 => absurd h9 (by decide))
      refine r_iload3 (pc2 := 120) dX12_readLines_119 rfl ?_
      refine r_ifeq (tgt := 134) (pc2 := 123) dX12_readLines_120 rfl (by decide) ⟨by omega, by omega⟩ (fun _ => ?_) (fun h9 => absurd h9 (by decide))
      refine r_iconst (pc2 := 135) dX12_readLines_134 rfl ?_
      refine r_istore3 (pc2 := 136) dX12_readLines_135 rfl rfl ?_
      refine r_goto (tgt := 2) dX12_readLines_136 (by decide) ?_
      refine r_iload3 (pc2 := 3) dX12_readLines_2 rfl ?_
      refine r_ifeq (tgt := 139) (pc2 := 6) dX12_readLines_3 rfl (by decide) ⟨by omega, by omega⟩ (fun _ => ?_) (fun h9 => absurd h9 (by decide))
      refine r_ret dX12_readLines_139 rfl ?_
      exact ⟨rfl, rfl⟩
set_option maxHeartbeats 8000000 in
theorem lp_X12_readLines {n e : Nat} {Q : pQ} {T : tD} {x0 : pS2} {M0 : pM} (hB : BLp n e) (hL : e = 5 → LTp n) (hT : tOk T) (hx0 : rSt T x0) (he : gD x0.2 + e = 5) (hg0 : gOk x0.2)
    (hQ : ∀ M2, RLq T M0 M2 x0 → Q none M2) :
    ∀ (m j : Nat) (r : rdT) (G : gPr) (M : pM), T.1 < r.1 + m → stn T j x0 (r, G) → frP M0 M → mSt M T r G → sst x0.2 G →
      Go (Ct (n + 5)) Q yX12_readLines cX12_readLines none 0 0 2 [some (.ref 317), some (.int (iI ((nst x0.2 : Nat) : Int))), some (.int (iI (if gD x0.2 = 0 then 1 else 0))), some (.int (iI 1))] [] (mM M r) := by
  intro m
  induction m with
  | zero => intro j r G M hm hst hfr hM hss; have h9 : r.1 ≤ T.1 := hM.2.2.2.2.1.1.1; omega
  | succ m ih =>
    intro j r G M hm hst hfr hM hss
    obtain ⟨hS, hTx, hC, hW, hx, z_r, hG⟩ := id hM
    have o_r := hx.1
    obtain ⟨⟨u, ns, hP⟩, hp⟩ := hx.2 z_r
    have hn := (hss.nst hg0).1
    have hD := hss.1
    have kr := kK_r hT o_r.1
    have h125 : 10 ≤ kK T r.1 ∧ kK T r.1 ≤ 16 → gS G < 125 := pos_125 hT o_r hp
    have hgo : ∀ M9, LNq T M M9 (r, G) → Go (Ct (n + 5)) Q yX12_readLines cX12_readLines none 0 0 109 [some (.ref 317), some (.int (iI ((nst x0.2 : Nat) : Int))), some (.int (iI (if gD x0.2 = 0 then 1 else 0))), some (.int (iI 1))] [] M9 := by
      rintro M9 ⟨j2, y, M3, r5, g1, g2, g3, g4, g5, g6, g7⟩
      rw [g2]
      have g8 := stn_st hT hx g1
      have hS3 := g3.1.ok hS
      refine r_iload3 (pc2 := 110) dX12_readLines_109 rfl ?_
      refine r_ifeq (tgt := 119) (pc2 := 113) dX12_readLines_110 rfl (by decide) ⟨by omega, by omega⟩ (fun h9 => absurd h9 (by decide)) (fun _ => ?_)
      refine r_aload0 (pc2 := 114) dX12_readLines_113 rfl ?_
      refine r_bipush (pc2 := 116) dX12_readLines_114 rfl (by decide) (by decide) ?_
      refine r_cv1 (pc2 := 119) dX12_readLines_116 rfl vX12_226 (hK_317 hS3) (by decide) (c_X12_takeSign (d := n + 3) (M := M3) (r := r5) (c := 59) hS3 hT (hC.fp g3) g4 (by omega)) ?_
      rintro _ M8 ⟨rfl, h8⟩
      rw [g5] at h8
      rw [h8]
      have iy := g8.1.1.2
      show Go (Ct (n + 5)) _ yX12_readLines cX12_readLines none 0 0 119 [some (.ref 317), some (.int (iI ((nst x0.2 : Nat) : Int))), some (.int (iI (if gD x0.2 = 0 then 1 else 0))), some (.int (iI 1))] [] (mM M3 y.1)
      refine r_iload3 (pc2 := 120) dX12_readLines_119 rfl ?_
      refine r_ifeq (tgt := 134) (pc2 := 123) dX12_readLines_120 rfl (by decide) ⟨by omega, by omega⟩ (fun h9 => absurd h9 (by decide)) (fun _ => ?_)
      refine r_aload0 (pc2 := 124) dX12_readLines_123 rfl ?_
      refine r_getI (z := y.1.2) (pc2 := 127) dX12_readLines_124 rfl (Or.inl fX12_182) (hK_317 hS3) mM_f ?_
      refine r_ifne (tgt := 134) (pc2 := 130) dX12_readLines_127 rfl (by decide) ⟨by omega, by omega⟩ (fun b_127 => ?_) (fun b_127 => ?_)
      · refine r_iconst (pc2 := 135) dX12_readLines_134 rfl ?_
        refine r_istore3 (pc2 := 136) dX12_readLines_135 rfl rfl ?_
        refine r_goto (tgt := 2) dX12_readLines_136 (by decide) ?_
        refine r_iload3 (pc2 := 3) dX12_readLines_2 rfl ?_
        refine r_ifeq (tgt := 139) (pc2 := 6) dX12_readLines_3 rfl (by decide) ⟨by omega, by omega⟩ (fun _ => ?_) (fun h9 => absurd h9 (by decide))
        refine r_ret dX12_readLines_139 rfl ?_
        exact hQ _ ⟨j + (j2 + 1), y, M3, stn_tr hst g1, rfl, hfr.tr g3, fun q => absurd q b_127⟩
      · refine r_iconst (pc2 := 131) dX12_readLines_130 rfl ?_
        refine r_goto (tgt := 135) dX12_readLines_131 (by decide) ?_
        refine r_istore3 (pc2 := 136) dX12_readLines_135 rfl rfl ?_
        refine r_goto (tgt := 2) dX12_readLines_136 (by decide) ?_
        have zy : y.1.2 = 0 := by omega
        have hlt := g8.2 zy
        obtain ⟨ry, Gy⟩ := y
        exact ih (j + (j2 + 1)) ry Gy M3 (by simp only at hlt; omega) (stn_tr hst g1) (hfr.tr g3) ⟨hS3, hT, hC.fp g3, hW.fp g3, g8.1, zy, g6 (rK_0 (k := 59) hT g4 (by omega) (by rw [g5]; exact zy)).1⟩ (hss.tr (g7 zy))
    by_cases hout : gD x0.2 = 0
    · rw [if_pos hout] at hgo ⊢
      refine r_iload3 (pc2 := 3) dX12_readLines_2 rfl ?_
      refine r_ifeq (tgt := 139) (pc2 := 6) dX12_readLines_3 rfl (by decide) ⟨by omega, by omega⟩ (fun h9 => absurd h9 (by decide)) (fun _ => ?_)
      refine r_aload0 (pc2 := 7) dX12_readLines_6 rfl ?_
      refine r_iconst (pc2 := 8) dX12_readLines_7 rfl ?_
      refine r_cv1 (pc2 := 11) dX12_readLines_8 rfl vX12_192 (hK_317 hS) (by decide) (c_X12_isWord (d := n + 4) (M := M) (r := r) (w := 0) hS hT hC o_r hW (by omega)) ?_
      rintro _ M9 ⟨h9, ⟨hq, rfl⟩ | ⟨hq, rfl⟩⟩
      · rw [h9]
        have k10 : kK T r.1 = 10 := hq.2
        show Go (Ct (n + 5)) _ yX12_readLines cX12_readLines none 0 0 11 [some (.ref 317), some (.int (iI ((nst x0.2 : Nat) : Int))), some (.int (iI 1)), some (.int (iI 1))] [.int (iI 1)] (mM M r)
        refine r_ifeq (tgt := 21) (pc2 := 14) dX12_readLines_11 rfl (by decide) ⟨by omega, by omega⟩ (fun h9 => absurd h9 (by decide)) (fun _ => ?_)
        refine r_aload0 (pc2 := 15) dX12_readLines_14 rfl ?_
        refine r_cv0 (pc2 := 18) dX12_readLines_15 rfl vX12_211 (hK_317 hS) (by decide) (c_X12_readPut (d := n + 1) hS hT hC hW o_r z_r hG hP (h125 (by omega)) k10) ?_
        rintro _ M9 ⟨rfl, h9⟩
        refine r_goto (tgt := 109) dX12_readLines_18 (by decide) ?_
        exact hgo M9 (h9.ln z_r (by omega) (pst_10 k10) sst.line)
      · rw [h9]
        have k10 : ¬ kK T r.1 = 10 := fun e9 => hq ⟨z_r, e9⟩
        show Go (Ct (n + 5)) _ yX12_readLines cX12_readLines none 0 0 11 [some (.ref 317), some (.int (iI ((nst x0.2 : Nat) : Int))), some (.int (iI 1)), some (.int (iI 1))] [.int (iI 0)] (mM M r)
        refine r_ifeq (tgt := 21) (pc2 := 14) dX12_readLines_11 rfl (by decide) ⟨by omega, by omega⟩ (fun _ => ?_) (fun h9 => absurd h9 (by decide))
        refine r_aload0 (pc2 := 22) dX12_readLines_21 rfl ?_
        refine r_iconst (pc2 := 23) dX12_readLines_22 rfl ?_
        refine r_cv1 (pc2 := 26) dX12_readLines_23 rfl vX12_192 (hK_317 hS) (by decide) (c_X12_isWord (d := n + 4) (M := M) (r := r) (w := 1) hS hT hC o_r hW (by omega)) ?_
        rintro _ M9 ⟨h9, ⟨hq, rfl⟩ | ⟨hq, rfl⟩⟩
        · rw [h9]
          have k11 : kK T r.1 = 11 := hq.2
          show Go (Ct (n + 5)) _ yX12_readLines cX12_readLines none 0 0 26 [some (.ref 317), some (.int (iI ((nst x0.2 : Nat) : Int))), some (.int (iI 1)), some (.int (iI 1))] [.int (iI 1)] (mM M r)
          refine r_ifne (tgt := 37) (pc2 := 29) dX12_readLines_26 rfl (by decide) ⟨by omega, by omega⟩ (fun _ => ?_) (fun h9 => absurd h9 (by decide))
          refine r_aload0 (pc2 := 38) dX12_readLines_37 rfl ?_
          refine r_iload1 (pc2 := 39) dX12_readLines_38 rfl ?_
          refine r_cv1 (pc2 := 42) dX12_readLines_39 rfl vX12_214 (hK_317 hS) (by decide) (by rw [← hn]; exact hB M T r G hM (by omega) (by omega)) ?_
          rintro _ M9 ⟨rfl, h9⟩
          refine r_goto (tgt := 109) dX12_readLines_42 (by decide) ?_
          exact hgo M9 (h9)
        · rw [h9]
          have k11 : ¬ kK T r.1 = 11 := fun e9 => hq ⟨z_r, e9⟩
          show Go (Ct (n + 5)) _ yX12_readLines cX12_readLines none 0 0 26 [some (.ref 317), some (.int (iI ((nst x0.2 : Nat) : Int))), some (.int (iI 1)), some (.int (iI 1))] [.int (iI 0)] (mM M r)
          refine r_ifne (tgt := 37) (pc2 := 29) dX12_readLines_26 rfl (by decide) ⟨by omega, by omega⟩ (fun h9 => absurd h9 (by decide)) (fun _ => ?_)
          refine r_aload0 (pc2 := 30) dX12_readLines_29 rfl ?_
          refine r_iconst (pc2 := 31) dX12_readLines_30 rfl ?_
          refine r_cv1 (pc2 := 34) dX12_readLines_31 rfl vX12_192 (hK_317 hS) (by decide) (c_X12_isWord (d := n + 4) (M := M) (r := r) (w := 2) hS hT hC o_r hW (by omega)) ?_
          rintro _ M9 ⟨h9, ⟨hq, rfl⟩ | ⟨hq, rfl⟩⟩
          · rw [h9]
            have k12 : kK T r.1 = 12 := hq.2
            show Go (Ct (n + 5)) _ yX12_readLines cX12_readLines none 0 0 34 [some (.ref 317), some (.int (iI ((nst x0.2 : Nat) : Int))), some (.int (iI 1)), some (.int (iI 1))] [.int (iI 1)] (mM M r)
            refine r_ifeq (tgt := 45) (pc2 := 37) dX12_readLines_34 rfl (by decide) ⟨by omega, by omega⟩ (fun h9 => absurd h9 (by decide)) (fun _ => ?_)
            refine r_aload0 (pc2 := 38) dX12_readLines_37 rfl ?_
            refine r_iload1 (pc2 := 39) dX12_readLines_38 rfl ?_
            refine r_cv1 (pc2 := 42) dX12_readLines_39 rfl vX12_214 (hK_317 hS) (by decide) (by rw [← hn]; exact hB M T r G hM (by omega) (by omega)) ?_
            rintro _ M9 ⟨rfl, h9⟩
            refine r_goto (tgt := 109) dX12_readLines_42 (by decide) ?_
            exact hgo M9 (h9)
          · rw [h9]
            have k12 : ¬ kK T r.1 = 12 := fun e9 => hq ⟨z_r, e9⟩
            show Go (Ct (n + 5)) _ yX12_readLines cX12_readLines none 0 0 34 [some (.ref 317), some (.int (iI ((nst x0.2 : Nat) : Int))), some (.int (iI 1)), some (.int (iI 1))] [.int (iI 0)] (mM M r)
            refine r_ifeq (tgt := 45) (pc2 := 37) dX12_readLines_34 rfl (by decide) ⟨by omega, by omega⟩ (fun _ => ?_) (fun h9 => absurd h9 (by decide))
            refine r_aload0 (pc2 := 46) dX12_readLines_45 rfl ?_
            refine r_iconst (pc2 := 47) dX12_readLines_46 rfl ?_
            refine r_cv1 (pc2 := 50) dX12_readLines_47 rfl vX12_192 (hK_317 hS) (by decide) (c_X12_isWord (d := n + 4) (M := M) (r := r) (w := 4) hS hT hC o_r hW (by omega)) ?_
            rintro _ M9 ⟨h9, ⟨hq, rfl⟩ | ⟨hq, rfl⟩⟩
            · rw [h9]
              have k14 : kK T r.1 = 14 := hq.2
              show Go (Ct (n + 5)) _ yX12_readLines cX12_readLines none 0 0 50 [some (.ref 317), some (.int (iI ((nst x0.2 : Nat) : Int))), some (.int (iI 1)), some (.int (iI 1))] [.int (iI 1)] (mM M r)
              refine r_ifeq (tgt := 60) (pc2 := 53) dX12_readLines_50 rfl (by decide) ⟨by omega, by omega⟩ (fun h9 => absurd h9 (by decide)) (fun _ => ?_)
              refine r_aload0 (pc2 := 54) dX12_readLines_53 rfl ?_
              refine r_cv0 (pc2 := 57) dX12_readLines_54 rfl vX12_217 (hK_317 hS) (by decide) (c_X12_readUse (d := n) hS hT hC hW o_r z_r hG hP (h125 (by omega)) k14) ?_
              rintro _ M9 ⟨rfl, h9⟩
              refine r_goto (tgt := 109) dX12_readLines_57 (by decide) ?_
              exact hgo M9 (h9.ln z_r (by omega) (pst_14 k14) sst.line)
            · rw [h9]
              have k14 : ¬ kK T r.1 = 14 := fun e9 => hq ⟨z_r, e9⟩
              show Go (Ct (n + 5)) _ yX12_readLines cX12_readLines none 0 0 50 [some (.ref 317), some (.int (iI ((nst x0.2 : Nat) : Int))), some (.int (iI 1)), some (.int (iI 1))] [.int (iI 0)] (mM M r)
              refine r_ifeq (tgt := 60) (pc2 := 53) dX12_readLines_50 rfl (by decide) ⟨by omega, by omega⟩ (fun _ => ?_) (fun h9 => absurd h9 (by decide))
              refine r_iload2 (pc2 := 61) dX12_readLines_60 rfl ?_
              refine r_ifeq (tgt := 79) (pc2 := 64) dX12_readLines_61 rfl (by decide) ⟨by omega, by omega⟩ (fun h9 => absurd h9 (by decide)) (fun _ => ?_)
              refine r_aload0 (pc2 := 65) dX12_readLines_64 rfl ?_
              refine r_iconst (pc2 := 66) dX12_readLines_65 rfl ?_
              refine r_cv1 (pc2 := 69) dX12_readLines_66 rfl vX12_192 (hK_317 hS) (by decide) (c_X12_isWord (d := n + 4) (M := M) (r := r) (w := 3) hS hT hC o_r hW (by omega)) ?_
              rintro _ M9 ⟨h9, ⟨hq, rfl⟩ | ⟨hq, rfl⟩⟩
              · rw [h9]
                have k13 : kK T r.1 = 13 := hq.2
                show Go (Ct (n + 5)) _ yX12_readLines cX12_readLines none 0 0 69 [some (.ref 317), some (.int (iI ((nst x0.2 : Nat) : Int))), some (.int (iI 1)), some (.int (iI 1))] [.int (iI 1)] (mM M r)
                refine r_ifeq (tgt := 79) (pc2 := 72) dX12_readLines_69 rfl (by decide) ⟨by omega, by omega⟩ (fun h9 => absurd h9 (by decide)) (fun _ => ?_)
                refine r_aload0 (pc2 := 73) dX12_readLines_72 rfl ?_
                refine r_cv0 (pc2 := 76) dX12_readLines_73 rfl vX12_220 (hK_317 hS) (by decide) (hL (by omega) M T r G hM (by omega) k13) ?_
                rintro _ M9 ⟨rfl, h9⟩
                refine r_goto (tgt := 109) dX12_readLines_76 (by decide) ?_
                exact hgo M9 (h9)
              · rw [h9]
                have k13 : ¬ kK T r.1 = 13 := fun e9 => hq ⟨z_r, e9⟩
                show Go (Ct (n + 5)) _ yX12_readLines cX12_readLines none 0 0 69 [some (.ref 317), some (.int (iI ((nst x0.2 : Nat) : Int))), some (.int (iI 1)), some (.int (iI 1))] [.int (iI 0)] (mM M r)
                refine r_ifeq (tgt := 79) (pc2 := 72) dX12_readLines_69 rfl (by decide) ⟨by omega, by omega⟩ (fun _ => ?_) (fun h9 => absurd h9 (by decide))
                refine r_iload2 (pc2 := 80) dX12_readLines_79 rfl ?_
                refine r_ifeq (tgt := 107) (pc2 := 83) dX12_readLines_80 rfl (by decide) ⟨by omega, by omega⟩ (fun h9 => absurd h9 (by decide)) (fun _ => ?_)
                refine r_aload0 (pc2 := 84) dX12_readLines_83 rfl ?_
                refine r_iconst (pc2 := 85) dX12_readLines_84 rfl ?_
                refine r_cv1 (pc2 := 88) dX12_readLines_85 rfl vX12_192 (hK_317 hS) (by decide) (c_X12_isWord (d := n + 4) (M := M) (r := r) (w := 5) hS hT hC o_r hW (by omega)) ?_
                rintro _ M9 ⟨h9, ⟨hq, rfl⟩ | ⟨hq, rfl⟩⟩
                · rw [h9]
                  have k15 : kK T r.1 = 15 := hq.2
                  show Go (Ct (n + 5)) _ yX12_readLines cX12_readLines none 0 0 88 [some (.ref 317), some (.int (iI ((nst x0.2 : Nat) : Int))), some (.int (iI 1)), some (.int (iI 1))] [.int (iI 1)] (mM M r)
                  refine r_ifne (tgt := 100) (pc2 := 91) dX12_readLines_88 rfl (by decide) ⟨by omega, by omega⟩ (fun _ => ?_) (fun h9 => absurd h9 (by decide))
                  refine r_aload0 (pc2 := 101) dX12_readLines_100 rfl ?_
                  refine r_cv0 (pc2 := 104) dX12_readLines_101 rfl vX12_223 (hK_317 hS) (by decide) (c_X12_readLower (d := n + 1) hS hT hC hW o_r z_r hG hP (h125 (by omega)) (by omega) (by omega)) ?_
                  rintro _ M9 ⟨rfl, h9⟩
                  refine r_goto (tgt := 109) dX12_readLines_104 (by decide) ?_
                  exact hgo M9 (h9.ln z_r (by omega) (by by_cases e15 : kK T r.1 = 15; (rw [if_pos e15]; exact pst_15 e15); (rw [if_neg e15]; exact pst_16 (by omega))) (by by_cases e15 : kK T r.1 = 15; (rw [if_pos e15]; exact sst.line); (rw [if_neg e15]; exact sst.line)))
                · rw [h9]
                  have k15 : ¬ kK T r.1 = 15 := fun e9 => hq ⟨z_r, e9⟩
                  show Go (Ct (n + 5)) _ yX12_readLines cX12_readLines none 0 0 88 [some (.ref 317), some (.int (iI ((nst x0.2 : Nat) : Int))), some (.int (iI 1)), some (.int (iI 1))] [.int (iI 0)] (mM M r)
                  refine r_ifne (tgt := 100) (pc2 := 91) dX12_readLines_88 rfl (by decide) ⟨by omega, by omega⟩ (fun h9 => absurd h9 (by decide)) (fun _ => ?_)
                  refine r_aload0 (pc2 := 92) dX12_readLines_91 rfl ?_
                  refine r_bipush (pc2 := 94) dX12_readLines_92 rfl (by decide) (by decide) ?_
                  refine r_cv1 (pc2 := 97) dX12_readLines_94 rfl vX12_192 (hK_317 hS) (by decide) (c_X12_isWord (d := n + 4) (M := M) (r := r) (w := 6) hS hT hC o_r hW (by omega)) ?_
                  rintro _ M9 ⟨h9, ⟨hq, rfl⟩ | ⟨hq, rfl⟩⟩
                  · rw [h9]
                    have k16 : kK T r.1 = 16 := hq.2
                    show Go (Ct (n + 5)) _ yX12_readLines cX12_readLines none 0 0 97 [some (.ref 317), some (.int (iI ((nst x0.2 : Nat) : Int))), some (.int (iI 1)), some (.int (iI 1))] [.int (iI 1)] (mM M r)
                    refine r_ifeq (tgt := 107) (pc2 := 100) dX12_readLines_97 rfl (by decide) ⟨by omega, by omega⟩ (fun h9 => absurd h9 (by decide)) (fun _ => ?_)
                    refine r_aload0 (pc2 := 101) dX12_readLines_100 rfl ?_
                    refine r_cv0 (pc2 := 104) dX12_readLines_101 rfl vX12_223 (hK_317 hS) (by decide) (c_X12_readLower (d := n + 1) hS hT hC hW o_r z_r hG hP (h125 (by omega)) (by omega) (by omega)) ?_
                    rintro _ M9 ⟨rfl, h9⟩
                    refine r_goto (tgt := 109) dX12_readLines_104 (by decide) ?_
                    exact hgo M9 (h9.ln z_r (by omega) (by by_cases e15 : kK T r.1 = 15; (rw [if_pos e15]; exact pst_15 e15); (rw [if_neg e15]; exact pst_16 (by omega))) (by by_cases e15 : kK T r.1 = 15; (rw [if_pos e15]; exact sst.line); (rw [if_neg e15]; exact sst.line)))
                  · rw [h9]
                    have k16 : ¬ kK T r.1 = 16 := fun e9 => hq ⟨z_r, e9⟩
                    show Go (Ct (n + 5)) _ yX12_readLines cX12_readLines none 0 0 97 [some (.ref 317), some (.int (iI ((nst x0.2 : Nat) : Int))), some (.int (iI 1)), some (.int (iI 1))] [.int (iI 0)] (mM M r)
                    refine r_ifeq (tgt := 107) (pc2 := 100) dX12_readLines_97 rfl (by decide) ⟨by omega, by omega⟩ (fun _ => ?_) (fun h9 => absurd h9 (by decide))
                    refine r_iconst (pc2 := 108) dX12_readLines_107 rfl ?_
                    refine r_istore3 (pc2 := 109) dX12_readLines_108 rfl rfl ?_
                    refine r_iload3 (pc2 := 110) dX12_readLines_109 rfl ?_
                    refine r_ifeq (tgt := 119) (pc2 := 113) dX12_readLines_110 rfl (by decide) ⟨by omega, by omega⟩ (fun _ => ?_) (fun h9 => absurd h9 (by decide))
                    refine r_iload3 (pc2 := 120) dX12_readLines_119 rfl ?_
                    refine r_ifeq (tgt := 134) (pc2 := 123) dX12_readLines_120 rfl (by decide) ⟨by omega, by omega⟩ (fun _ => ?_) (fun h9 => absurd h9 (by decide))
                    refine r_iconst (pc2 := 135) dX12_readLines_134 rfl ?_
                    refine r_istore3 (pc2 := 136) dX12_readLines_135 rfl rfl ?_
                    refine r_goto (tgt := 2) dX12_readLines_136 (by decide) ?_
                    refine r_iload3 (pc2 := 3) dX12_readLines_2 rfl ?_
                    refine r_ifeq (tgt := 139) (pc2 := 6) dX12_readLines_3 rfl (by decide) ⟨by omega, by omega⟩ (fun _ => ?_) (fun h9 => absurd h9 (by decide))
                    refine r_ret dX12_readLines_139 rfl ?_
                    exact hQ _ ⟨j, (r, G), M, hst, rfl, hfr, fun _ => ⟨hG, hss, by unfold lst; dsimp only; omega⟩⟩
    · rw [if_neg hout] at hgo ⊢
      refine r_iload3 (pc2 := 3) dX12_readLines_2 rfl ?_
      refine r_ifeq (tgt := 139) (pc2 := 6) dX12_readLines_3 rfl (by decide) ⟨by omega, by omega⟩ (fun h9 => absurd h9 (by decide)) (fun _ => ?_)
      refine r_aload0 (pc2 := 7) dX12_readLines_6 rfl ?_
      refine r_iconst (pc2 := 8) dX12_readLines_7 rfl ?_
      refine r_cv1 (pc2 := 11) dX12_readLines_8 rfl vX12_192 (hK_317 hS) (by decide) (c_X12_isWord (d := n + 4) (M := M) (r := r) (w := 0) hS hT hC o_r hW (by omega)) ?_
      rintro _ M9 ⟨h9, ⟨hq, rfl⟩ | ⟨hq, rfl⟩⟩
      · rw [h9]
        have k10 : kK T r.1 = 10 := hq.2
        show Go (Ct (n + 5)) _ yX12_readLines cX12_readLines none 0 0 11 [some (.ref 317), some (.int (iI ((nst x0.2 : Nat) : Int))), some (.int (iI 0)), some (.int (iI 1))] [.int (iI 1)] (mM M r)
        refine r_ifeq (tgt := 21) (pc2 := 14) dX12_readLines_11 rfl (by decide) ⟨by omega, by omega⟩ (fun h9 => absurd h9 (by decide)) (fun _ => ?_)
        refine r_aload0 (pc2 := 15) dX12_readLines_14 rfl ?_
        refine r_cv0 (pc2 := 18) dX12_readLines_15 rfl vX12_211 (hK_317 hS) (by decide) (c_X12_readPut (d := n + 1) hS hT hC hW o_r z_r hG hP (h125 (by omega)) k10) ?_
        rintro _ M9 ⟨rfl, h9⟩
        refine r_goto (tgt := 109) dX12_readLines_18 (by decide) ?_
        exact hgo M9 (h9.ln z_r (by omega) (pst_10 k10) sst.line)
      · rw [h9]
        have k10 : ¬ kK T r.1 = 10 := fun e9 => hq ⟨z_r, e9⟩
        show Go (Ct (n + 5)) _ yX12_readLines cX12_readLines none 0 0 11 [some (.ref 317), some (.int (iI ((nst x0.2 : Nat) : Int))), some (.int (iI 0)), some (.int (iI 1))] [.int (iI 0)] (mM M r)
        refine r_ifeq (tgt := 21) (pc2 := 14) dX12_readLines_11 rfl (by decide) ⟨by omega, by omega⟩ (fun _ => ?_) (fun h9 => absurd h9 (by decide))
        refine r_aload0 (pc2 := 22) dX12_readLines_21 rfl ?_
        refine r_iconst (pc2 := 23) dX12_readLines_22 rfl ?_
        refine r_cv1 (pc2 := 26) dX12_readLines_23 rfl vX12_192 (hK_317 hS) (by decide) (c_X12_isWord (d := n + 4) (M := M) (r := r) (w := 1) hS hT hC o_r hW (by omega)) ?_
        rintro _ M9 ⟨h9, ⟨hq, rfl⟩ | ⟨hq, rfl⟩⟩
        · rw [h9]
          have k11 : kK T r.1 = 11 := hq.2
          show Go (Ct (n + 5)) _ yX12_readLines cX12_readLines none 0 0 26 [some (.ref 317), some (.int (iI ((nst x0.2 : Nat) : Int))), some (.int (iI 0)), some (.int (iI 1))] [.int (iI 1)] (mM M r)
          refine r_ifne (tgt := 37) (pc2 := 29) dX12_readLines_26 rfl (by decide) ⟨by omega, by omega⟩ (fun _ => ?_) (fun h9 => absurd h9 (by decide))
          refine r_aload0 (pc2 := 38) dX12_readLines_37 rfl ?_
          refine r_iload1 (pc2 := 39) dX12_readLines_38 rfl ?_
          refine r_cv1 (pc2 := 42) dX12_readLines_39 rfl vX12_214 (hK_317 hS) (by decide) (by rw [← hn]; exact hB M T r G hM (by omega) (by omega)) ?_
          rintro _ M9 ⟨rfl, h9⟩
          refine r_goto (tgt := 109) dX12_readLines_42 (by decide) ?_
          exact hgo M9 (h9)
        · rw [h9]
          have k11 : ¬ kK T r.1 = 11 := fun e9 => hq ⟨z_r, e9⟩
          show Go (Ct (n + 5)) _ yX12_readLines cX12_readLines none 0 0 26 [some (.ref 317), some (.int (iI ((nst x0.2 : Nat) : Int))), some (.int (iI 0)), some (.int (iI 1))] [.int (iI 0)] (mM M r)
          refine r_ifne (tgt := 37) (pc2 := 29) dX12_readLines_26 rfl (by decide) ⟨by omega, by omega⟩ (fun h9 => absurd h9 (by decide)) (fun _ => ?_)
          refine r_aload0 (pc2 := 30) dX12_readLines_29 rfl ?_
          refine r_iconst (pc2 := 31) dX12_readLines_30 rfl ?_
          refine r_cv1 (pc2 := 34) dX12_readLines_31 rfl vX12_192 (hK_317 hS) (by decide) (c_X12_isWord (d := n + 4) (M := M) (r := r) (w := 2) hS hT hC o_r hW (by omega)) ?_
          rintro _ M9 ⟨h9, ⟨hq, rfl⟩ | ⟨hq, rfl⟩⟩
          · rw [h9]
            have k12 : kK T r.1 = 12 := hq.2
            show Go (Ct (n + 5)) _ yX12_readLines cX12_readLines none 0 0 34 [some (.ref 317), some (.int (iI ((nst x0.2 : Nat) : Int))), some (.int (iI 0)), some (.int (iI 1))] [.int (iI 1)] (mM M r)
            refine r_ifeq (tgt := 45) (pc2 := 37) dX12_readLines_34 rfl (by decide) ⟨by omega, by omega⟩ (fun h9 => absurd h9 (by decide)) (fun _ => ?_)
            refine r_aload0 (pc2 := 38) dX12_readLines_37 rfl ?_
            refine r_iload1 (pc2 := 39) dX12_readLines_38 rfl ?_
            refine r_cv1 (pc2 := 42) dX12_readLines_39 rfl vX12_214 (hK_317 hS) (by decide) (by rw [← hn]; exact hB M T r G hM (by omega) (by omega)) ?_
            rintro _ M9 ⟨rfl, h9⟩
            refine r_goto (tgt := 109) dX12_readLines_42 (by decide) ?_
            exact hgo M9 (h9)
          · rw [h9]
            have k12 : ¬ kK T r.1 = 12 := fun e9 => hq ⟨z_r, e9⟩
            show Go (Ct (n + 5)) _ yX12_readLines cX12_readLines none 0 0 34 [some (.ref 317), some (.int (iI ((nst x0.2 : Nat) : Int))), some (.int (iI 0)), some (.int (iI 1))] [.int (iI 0)] (mM M r)
            refine r_ifeq (tgt := 45) (pc2 := 37) dX12_readLines_34 rfl (by decide) ⟨by omega, by omega⟩ (fun _ => ?_) (fun h9 => absurd h9 (by decide))
            refine r_aload0 (pc2 := 46) dX12_readLines_45 rfl ?_
            refine r_iconst (pc2 := 47) dX12_readLines_46 rfl ?_
            refine r_cv1 (pc2 := 50) dX12_readLines_47 rfl vX12_192 (hK_317 hS) (by decide) (c_X12_isWord (d := n + 4) (M := M) (r := r) (w := 4) hS hT hC o_r hW (by omega)) ?_
            rintro _ M9 ⟨h9, ⟨hq, rfl⟩ | ⟨hq, rfl⟩⟩
            · rw [h9]
              have k14 : kK T r.1 = 14 := hq.2
              show Go (Ct (n + 5)) _ yX12_readLines cX12_readLines none 0 0 50 [some (.ref 317), some (.int (iI ((nst x0.2 : Nat) : Int))), some (.int (iI 0)), some (.int (iI 1))] [.int (iI 1)] (mM M r)
              refine r_ifeq (tgt := 60) (pc2 := 53) dX12_readLines_50 rfl (by decide) ⟨by omega, by omega⟩ (fun h9 => absurd h9 (by decide)) (fun _ => ?_)
              refine r_aload0 (pc2 := 54) dX12_readLines_53 rfl ?_
              refine r_cv0 (pc2 := 57) dX12_readLines_54 rfl vX12_217 (hK_317 hS) (by decide) (c_X12_readUse (d := n) hS hT hC hW o_r z_r hG hP (h125 (by omega)) k14) ?_
              rintro _ M9 ⟨rfl, h9⟩
              refine r_goto (tgt := 109) dX12_readLines_57 (by decide) ?_
              exact hgo M9 (h9.ln z_r (by omega) (pst_14 k14) sst.line)
            · rw [h9]
              have k14 : ¬ kK T r.1 = 14 := fun e9 => hq ⟨z_r, e9⟩
              show Go (Ct (n + 5)) _ yX12_readLines cX12_readLines none 0 0 50 [some (.ref 317), some (.int (iI ((nst x0.2 : Nat) : Int))), some (.int (iI 0)), some (.int (iI 1))] [.int (iI 0)] (mM M r)
              refine r_ifeq (tgt := 60) (pc2 := 53) dX12_readLines_50 rfl (by decide) ⟨by omega, by omega⟩ (fun _ => ?_) (fun h9 => absurd h9 (by decide))
              refine r_iload2 (pc2 := 61) dX12_readLines_60 rfl ?_
              refine r_ifeq (tgt := 79) (pc2 := 64) dX12_readLines_61 rfl (by decide) ⟨by omega, by omega⟩ (fun _ => ?_) (fun h9 => absurd h9 (by decide))
              refine r_iload2 (pc2 := 80) dX12_readLines_79 rfl ?_
              refine r_ifeq (tgt := 107) (pc2 := 83) dX12_readLines_80 rfl (by decide) ⟨by omega, by omega⟩ (fun _ => ?_) (fun h9 => absurd h9 (by decide))
              refine r_iconst (pc2 := 108) dX12_readLines_107 rfl ?_
              refine r_istore3 (pc2 := 109) dX12_readLines_108 rfl rfl ?_
              refine r_iload3 (pc2 := 110) dX12_readLines_109 rfl ?_
              refine r_ifeq (tgt := 119) (pc2 := 113) dX12_readLines_110 rfl (by decide) ⟨by omega, by omega⟩ (fun _ => ?_) (fun h9 => absurd h9 (by decide))
              refine r_iload3 (pc2 := 120) dX12_readLines_119 rfl ?_
              refine r_ifeq (tgt := 134) (pc2 := 123) dX12_readLines_120 rfl (by decide) ⟨by omega, by omega⟩ (fun _ => ?_) (fun h9 => absurd h9 (by decide))
              refine r_iconst (pc2 := 135) dX12_readLines_134 rfl ?_
              refine r_istore3 (pc2 := 136) dX12_readLines_135 rfl rfl ?_
              refine r_goto (tgt := 2) dX12_readLines_136 (by decide) ?_
              refine r_iload3 (pc2 := 3) dX12_readLines_2 rfl ?_
              refine r_ifeq (tgt := 139) (pc2 := 6) dX12_readLines_3 rfl (by decide) ⟨by omega, by omega⟩ (fun _ => ?_) (fun h9 => absurd h9 (by decide))
              refine r_ret dX12_readLines_139 rfl ?_
              exact hQ _ ⟨j, (r, G), M, hst, rfl, hfr, fun _ => ⟨hG, hss, by unfold lst; dsimp only; omega⟩⟩
theorem rln {n e : Nat} (hB : BLp n e) (hL : e = 5 → LTp n) : RLp n e := by
  intro M T r G hM he
  obtain ⟨hS, hT, hC, hW, hx, z_r, hG⟩ := id hM
  obtain ⟨⟨u, ns, hP⟩, hp⟩ := hx.2 z_r
  refine ct_in (d := (n + 5)) kX12_readLines rfl (by decide) (Nat.le_of_ble_eq_true rfl) (by decide) ?_
  show Go (Ct (n + 5)) _ yX12_readLines cX12_readLines none 0 0 0 [some (.ref 317), some (.int (iI ((nst G : Nat) : Int))), some (.int (iI (if gD G = 0 then 1 else 0))), none] [] (mM M r)
  refine r_iconst (pc2 := 1) dX12_readLines_0 rfl ?_
  refine r_istore3 (pc2 := 2) dX12_readLines_1 rfl rfl ?_
  exact lp_X12_readLines (x0 := (r, G)) hB hL hT hx he hP.ok (fun M2 h => ⟨rfl, h⟩) (T.1 + 1) 0 r G M (by omega) rfl frP.rf hM sst.rf
