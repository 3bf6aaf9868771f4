/-! one step of the reading keeps what is sure -/
theorem kwL_p : ∀ k, 1 ≤ kwL k := by
  intro k
  unfold kwL
  split <;> decide
theorem kS_s {T : tD} (hT : tOk T) {i : Nat} (hi : i < T.1) : kS T i + 1 ≤ kS T (i + 1) := by
  have := hT.2.2.2.2.2.2.1 i hi
  have := kwL_p (kK T i).toNat
  omega
theorem kS_w {T : tD} (hT : tOk T) {i k : Nat} (hi : i < T.1) (hk : kK T i = (k : Int)) : kS T i + kwL k ≤ kS T (i + 1) := by
  have := hT.2.2.2.2.2.2.1 i hi
  rw [hk, Int.toNat_natCast] at this
  exact this
theorem kS_ww {T : tD} (hT : tOk T) {i k : Nat} (hi : i < T.1) (hk : kK T i = (k : Int)) (h1 : isW (kK T i)) (h2 : isW (kK T (i + 1))) : kS T i + kwL k + 1 ≤ kS T (i + 1) := by
  have := hT.2.2.2.2.2.2.2 i hi (Or.inl ⟨h1, h2⟩)
  rw [hk, Int.toNat_natCast] at this
  exact this
theorem kS_nn {T : tD} (hT : tOk T) {i : Nat} (hi : i < T.1) (h1 : kK T i = 19) (h2 : kK T (i + 1) = 19) : kS T i + 2 ≤ kS T (i + 1) := by
  have := hT.2.2.2.2.2.2.2 i hi (Or.inr ⟨h1, h2⟩)
  have := kwL_p (kK T i).toNat
  omega
def pos (T : tD) (r : rdT) (G : gPr) : Prop := 8 * gS G ≤ kS T r.1 + 2 * iL G
theorem pos_125 {T : tD} {r : rdT} {G : gPr} (hT : tOk T) (ho : rOk T r) (hp : pos T r G) (hk : 10 ≤ kK T r.1 ∧ kK T r.1 ≤ 16) : gS G < 125 := by
  have hl := K_lt hT ho.1 (by omega)
  have h1 := kS_1000 hT (show r.1 + 1 ≤ T.1 by omega)
  have h2 : kS T r.1 + 3 ≤ kS T (r.1 + 1) := by
    have := hT.2.2.2.2.2.2.1 r.1 hl
    have h3 : 3 ≤ kwL (kK T r.1).toNat := by
      rcases (show kK T r.1 = 10 ∨ kK T r.1 = 11 ∨ kK T r.1 = 12 ∨ kK T r.1 = 13 ∨ kK T r.1 = 14 ∨ kK T r.1 = 15 ∨ kK T r.1 = 16 by omega) with e | e | e | e | e | e | e <;> rw [e] <;> decide
    omega
  unfold pos at hp
  have := iL_le (G := G)
  omega
section LVs
variable {G : gPr} {u : Nat → Nat} {x y z w : Int}
theorem LV_put (h : (1 ≤ x ∧ x ≤ 9) ∧ (0 ≤ z ∧ z ≤ 12) ∧ (0 ≤ w ∧ w ≤ 11) ∧ (x = 4 ∨ x = 9 → 0 ≤ y ∧ y ≤ 1) ∧ (x = 6 → 0 ≤ y ∧ y ≤ 3) ∧ (x = 7 → 2 ≤ y ∧ y ≤ 9) ∧ (¬ x = 4 → ¬ x = 9 → ¬ x = 6 → ¬ x = 7 → y = 0)) : LV (gLine G 10 x y z w) u (gS G) := by
  unfold LV
  rw [show gA (gLine G 10 x y z w) (gS G) = 10 from up_at, show g1 (gLine G 10 x y z w) (gS G) = x from up_at, show g2 (gLine G 10 x y z w) (gS G) = y from up_at, show g3 (gLine G 10 x y z w) (gS G) = z from up_at, show g4 (gLine G 10 x y z w) (gS G) = w from up_at]
  exact ⟨fun _ => h, fun q => absurd q (by decide), fun q => absurd q (by decide), fun q => absurd q (by decide), fun q => absurd q (by decide), fun q => absurd q (by decide)⟩
theorem LV_again (h : (1 ≤ x ∧ x ≤ 12) ∧ (-12 ≤ y ∧ y ≤ 12) ∧ (-12 ≤ z ∧ z ≤ 12)) : LV (gLine G 11 x y z w) u (gS G) := by
  unfold LV
  rw [show gA (gLine G 11 x y z w) (gS G) = 11 from up_at, show g1 (gLine G 11 x y z w) (gS G) = x from up_at, show g2 (gLine G 11 x y z w) (gS G) = y from up_at, show g3 (gLine G 11 x y z w) (gS G) = z from up_at]
  exact ⟨fun q => absurd q (by decide), fun _ => h, fun q => absurd q (by decide), fun q => absurd q (by decide), fun q => absurd q (by decide), fun q => absurd q (by decide)⟩
theorem LV_mirror (h : 0 ≤ x ∧ x ≤ 12) : LV (gLine G 12 x y z w) u (gS G) := by
  unfold LV
  rw [show gA (gLine G 12 x y z w) (gS G) = 12 from up_at, show g1 (gLine G 12 x y z w) (gS G) = x from up_at]
  exact ⟨fun q => absurd q (by decide), fun q => absurd q (by decide), fun _ => h, fun q => absurd q (by decide), fun q => absurd q (by decide), fun q => absurd q (by decide)⟩
theorem LV_use (h : (∃ k, k < u (gS G) ∧ x = ((gL G k : Nat) : Int)) ∧ (-12 ≤ y ∧ y ≤ 12) ∧ (-12 ≤ z ∧ z ≤ 12)) : LV (gLine G 14 x y z w) u (gS G) := by
  unfold LV
  rw [show gA (gLine G 14 x y z w) (gS G) = 14 from up_at, show g1 (gLine G 14 x y z w) (gS G) = x from up_at, show g2 (gLine G 14 x y z w) (gS G) = y from up_at, show g3 (gLine G 14 x y z w) (gS G) = z from up_at]
  exact ⟨fun q => absurd q (by decide), fun q => absurd q (by decide), fun q => absurd q (by decide), fun _ => h, fun q => absurd q (by decide), fun q => absurd q (by decide)⟩
theorem LV_lane (h : (0 ≤ x ∧ x ≤ 12) ∧ (-1 ≤ y ∧ y ≤ 3)) : LV (gLine G 15 x y z w) u (gS G) := by
  unfold LV
  rw [show gA (gLine G 15 x y z w) (gS G) = 15 from up_at, show g1 (gLine G 15 x y z w) (gS G) = x from up_at, show g2 (gLine G 15 x y z w) (gS G) = y from up_at]
  exact ⟨fun q => absurd q (by decide), fun q => absurd q (by decide), fun q => absurd q (by decide), fun q => absurd q (by decide), fun _ => h, fun q => absurd q (by decide)⟩
theorem LV_hop (h : (0 ≤ x ∧ x ≤ 3) ∧ (0 ≤ y ∧ y ≤ 12) ∧ (0 ≤ z ∧ z ≤ 3) ∧ (0 ≤ w ∧ w ≤ 999)) : LV (gLine G 16 x y z w) u (gS G) := by
  unfold LV
  rw [show gA (gLine G 16 x y z w) (gS G) = 16 from up_at, show g1 (gLine G 16 x y z w) (gS G) = x from up_at, show g2 (gLine G 16 x y z w) (gS G) = y from up_at, show g3 (gLine G 16 x y z w) (gS G) = z from up_at, show g4 (gLine G 16 x y z w) (gS G) = w from up_at]
  exact ⟨fun q => absurd q (by decide), fun q => absurd q (by decide), fun q => absurd q (by decide), fun q => absurd q (by decide), fun q => absurd q (by decide), fun _ => h⟩
end LVs
/-- what a step leaves -/
def nxt (T : tD) (r : rdT) (x : pS2) : Prop := rOk T x.1 ∧ (x.1.2 = 0 → r.1 < x.1.1 ∧ (∃ u ns, PV x.2 u ns) ∧ pos T x.1 x.2)
section ST
variable {T : tD} {r : rdT} {G : gPr} {u ns : Nat → Nat}
theorem ln_pos {a x y z w : Int} {r2 : rdT} (hG : PV G u ns) (hp : pos T r G) (h : kS T r.1 + 8 ≤ kS T r2.1) : pos T r2 (gLine G a x y z w) := by
  unfold pos at *
  rw [iL_line hG.ok]
  show 8 * (gS G + 1) ≤ _
  omega
theorem kS_mono (hT : tOk T) {i j : Nat} (h : i ≤ j) (hj : j ≤ T.1) : kS T i ≤ kS T j := by
  induction j with
  | zero => rw [show i = 0 by omega]; exact Nat.le_refl _
  | succ j ih =>
    by_cases e : i = j + 1
    · rw [e]; exact Nat.le_refl _
    · have h1 := ih (by omega) (by omega)
      have h2 := kS_s hT (show j < T.1 by omega)
      omega
theorem pos_opn {G : gPr} {r2 : rdT} {i : Nat} (h : pos T r2 G) (hi : gD G = 0 → ¬ gA G i = 13) : pos T r2 (gOpen G i) := by
  have hL : iL G ≤ iL (gOpen G i) := by
    have := iL_le (G := G)
    rcases (show iL G = 0 ∨ iL G = 1 by omega) with q | q
    · omega
    · have q1 := iL_1.mp q
      have q2 : inL (gOpen G i) := ⟨by show 0 < gD G + 1; omega, by
        show gA G (va_up (gO G) (gD G) i 0) = 13
        rw [up_ne (by have := q1.1; omega)]; exact q1.2⟩
      rw [q, iL_1.mpr q2]; exact Nat.le_refl _
  unfold pos at *
  show 8 * gS G ≤ _
  omega
theorem st_put (hT : tOk T) (ho : rOk T r) (hr : r.2 = 0) (hk : kK T r.1 = 10) (hG : PV G u ns) (hp : pos T r G) : nxt T r (lPut T r G) := by
  have h125 := pos_125 hT ho hp (by omega)
  have hl := K_lt hT ho.1 (by omega)
  unfold lPut
  dsimp only
  rw [av_y hr hl]
  dsimp only
  have o1 : rOk T (r.1 + 1, 0) := ⟨by simp only; omega, by show (0 : Int) ≤ 0; decide, by show (0 : Int) ≤ 16005; decide⟩
  generalize hq : kK T (r.1 + 1) = q
  generalize h2 : av T (if 1 ≤ q ∧ q ≤ 9 then (r.1 + 1, 0) else fl T 1 (r.1 + 1, 0)) = r2
  have o2 : rOk T r2 := by
    rw [← h2]
    split
    · exact o1.a
    · exact (o1.f hT (by omega) (by omega)).a
  generalize h3 : (if q = 4 ∨ q = 9 then rN T 0 1 r2 else if q = 6 then rN T 0 3 r2 else if q = 7 then rN T 2 9 r2 else r2) = r3
  have o3 : rOk T r3 := by
    rw [← h3]
    (repeat' split) <;> first | exact o2.N hT | exact o2
  refine ⟨((o3.N hT).N hT).K hT, fun e => ?_⟩
  have f6 := rK_0 (k := 59) hT ((o3.N hT).N hT) (by omega) e
  have f5 := rN_0 hT (o3.N hT) f6.1
  have f4 := rN_0 hT o3 f5.1
  have f3 : r2.2 = 0 ∧ r2.1 ≤ r3.1 ∧ (q = 4 ∨ q = 9 → 0 ≤ ((kV T r2.1 : Nat) : Int) ∧ ((kV T r2.1 : Nat) : Int) ≤ 1) ∧ (q = 6 → 0 ≤ ((kV T r2.1 : Nat) : Int) ∧ ((kV T r2.1 : Nat) : Int) ≤ 3) ∧ (q = 7 → 2 ≤ ((kV T r2.1 : Nat) : Int) ∧ ((kV T r2.1 : Nat) : Int) ≤ 9) ∧ kS T r2.1 ≤ kS T r3.1 := by
    have e3 := f4.1
    rw [← h3] at e3 ⊢
    split at e3
    · rename_i c; have g := rN_0 hT o2 e3; rw [if_pos c, g.2.2.2.2]; have := kS_s hT g.2.2.2.1; exact ⟨g.1, by simp only; omega, fun _ => g.2.2.1, fun _ => by omega, fun _ => by omega, by simp only; omega⟩
    · rename_i c
      rw [if_neg c]
      split at e3
      · rename_i c2; have g := rN_0 hT o2 e3; rw [if_pos c2, g.2.2.2.2]; have := kS_s hT g.2.2.2.1; exact ⟨g.1, by simp only; omega, fun _ => by omega, fun _ => g.2.2.1, fun _ => by omega, by simp only; omega⟩
      · rename_i c2
        rw [if_neg c2]
        split at e3
        · rename_i c3; have g := rN_0 hT o2 e3; rw [if_pos c3, g.2.2.2.2]; have := kS_s hT g.2.2.2.1; exact ⟨g.1, by simp only; omega, fun _ => by omega, fun _ => by omega, fun _ => g.2.2.1, by simp only; omega⟩
        · rename_i c3; rw [if_neg c3]; exact ⟨e3, Nat.le_refl _, fun _ => by omega, fun _ => by omega, fun _ => by omega, Nat.le_refl _⟩
  have f2 : (1 ≤ q ∧ q ≤ 9) ∧ r2 = (r.1 + 2, 0) ∧ r.1 + 1 < T.1 := by
    have e2 := f3.1
    rw [← h2] at e2 ⊢
    split at e2
    · rename_i c
      have hl2 := K_lt (i := r.1 + 1) hT (by omega) (by omega)
      exact ⟨c, by rw [if_pos c, av_y rfl hl2], hl2⟩
    · exact absurd (av_0 e2) (fl_f (by omega) o1.2.1)
  have e4 := f4.2.2.2.2
  have e5 := f5.2.2.2.2
  have e6 := f6.2.2.2
  have s0 := kS_ww (k := 10) hT hl hk (by unfold isW; omega) (by unfold isW; rw [hq]; omega)
  have s1 : kS T (r.1 + 1) + 3 ≤ kS T (r.1 + 2) := by
    have : kS T (r.1 + 1) + kwL (kK T (r.1 + 1)).toNat ≤ kS T (r.1 + 2) := hT.2.2.2.2.2.2.1 (r.1 + 1) f2.2.2
    have h9 : 3 ≤ kwL (kK T (r.1 + 1)).toNat := by
      rw [hq]
      rcases (show q = 1 ∨ q = 2 ∨ q = 3 ∨ q = 4 ∨ q = 5 ∨ q = 6 ∨ q = 7 ∨ q = 8 ∨ q = 9 by omega) with c | c | c | c | c | c | c | c | c <;> rw [c] <;> decide
    omega
  have s4 := kS_s hT f4.2.2.2.1
  have s5 := kS_s hT f5.2.2.2.1
  have s6 := kS_s hT f6.2.2.1
  rw [e4] at e5 s5 f5
  rw [e4, e5] at e6 s6
  have er2 : r2.1 = r.1 + 2 := by rw [f2.2.1]
  rw [er2] at f3
  have k10 : kwL 10 = 3 := rfl
  rw [e4, e5, e6]
  refine ⟨?_, ⟨_, _, hG.line h125 (by decide) (LV_put ?_)⟩, ln_pos hG hp ?_⟩
  · simp only; omega
  · rw [er2]
    refine ⟨f2.1, f4.2.2.1, f5.2.2.1, fun c => ?_, fun c => ?_, fun c => ?_, fun c1 c2 c3 c4 => ?_⟩
    · rw [if_pos (by omega)]; exact f3.2.2.1 c
    · rw [if_pos (by omega)]; exact f3.2.2.2.1 c
    · rw [if_pos (by omega)]; exact f3.2.2.2.2.1 c
    · rw [if_neg (by omega)]
  · simp only at *
    omega
theorem st_close (hT : tOk T) (ho : rOk T r) (hr : r.2 = 0) (hG : PV G u ns) (hp : pos T r G) : nxt T r (lClose T r G) := by
  unfold lClose
  have o0 : rOk T (if gD G = 0 then fl T 1 r else r) := by
    split
    · exact ho.f hT (by omega) (by omega)
    · exact ho
  refine ⟨(o0.K hT).K hT, fun e => ?_⟩
  have f2 := rK_0 (k := 59) hT (o0.K hT) (by omega) e
  have f1 := rK_0 (k := 41) hT o0 (by omega) f2.1
  by_cases h0 : gD G = 0
  · rw [if_pos h0] at f1; exact absurd f1.1 (fl_f (by omega) ho.2.1)
  · rw [if_neg h0] at f1 f2 ⊢
    have e1 := f1.2.2.2
    have e2 := f2.2.2.2
    have s1 := kS_s hT f1.2.2.1
    have s2 := kS_s hT f2.2.2.1
    rw [e1] at e2 s2
    rw [e1, e2]
    have hD : 0 < gD G := by omega
    refine ⟨by simp only; omega, ⟨u, ns, hG.cls hD⟩, ?_⟩
    have := iL_le (G := G)
    unfold pos at *
    show 8 * gS G ≤ _
    simp only at *
    omega
theorem st_mirror (hT : tOk T) (ho : rOk T r) (hr : r.2 = 0) (hk : kK T r.1 = 12) (hG : PV G u ns) (hp : pos T r G) : nxt T r (lMirror T r G) := by
  have h125 := pos_125 hT ho hp (by omega)
  have hl := K_lt hT ho.1 (by omega)
  have oc : rOk T (cNs T r G) := rOk_cNs hT ho
  unfold lMirror
  dsimp only
  refine ⟨(oc.a.N hT).K hT, fun e => ?_⟩
  have f3 := rK_0 (k := 40) hT (oc.a.N hT) (by omega) e
  have f2 := rN_0 hT oc.a f3.1
  have f0 := cNs_0 ho (av_0 f2.1)
  rw [f0.2, av_y hr hl] at f2 f3 ⊢
  have e2 := f2.2.2.2.2
  have e3 := f3.2.2.2
  have s0 := kS_w (k := 12) hT hl hk
  have s2 := kS_s hT f2.2.2.2.1
  have s3 := kS_s hT f3.2.2.1
  rw [e2] at e3 s3
  rw [e2, e3]
  have k12 : kwL 12 = 6 := rfl
  refine ⟨by simp only; omega, ⟨_, _, hG.block h125 (Or.inr rfl) (LV_mirror f2.2.2.1) f0.1⟩, ?_⟩
  have hp2 := ln_pos (a := 12) (x := ((kV T (r.1 + 1) : Nat) : Int)) (y := 0) (z := 0) (w := 0) (r2 := (r.1 + 1 + 1 + 1, 0)) hG hp (by simp only at *; omega)
  exact pos_opn hp2 (fun _ => by show ¬ va_up (gA G) (gS G) 12 (gS G) = 13; rw [up_at]; decide)
theorem st_again (hT : tOk T) (ho : rOk T r) (hr : r.2 = 0) (hk : kK T r.1 = 11) (hG : PV G u ns) (hp : pos T r G) : nxt T r (lAgain T r G) := by
  have h125 := pos_125 hT ho hp (by omega)
  have hl := K_lt hT ho.1 (by omega)
  have oc : rOk T (cNs T r G) := rOk_cNs hT ho
  unfold lAgain
  dsimp only
  have o2 := oc.a.N hT (lo := 1) (hi := 12)
  have o3 := o2.K hT (k := 17)
  refine ⟨((o3.S hT).S hT).K hT, fun e => ?_⟩
  have f6 := rK_0 (k := 40) hT ((o3.S hT).S hT) (by omega) e
  have f5 := rS_0 hT (o3.S hT) f6.1
  have f4 := rS_0 hT o3 f5.1
  have f3 := rK_0 (k := 17) hT o2 (by omega) f4.1
  have f2 := rN_0 hT oc.a f3.1
  have f0 := cNs_0 ho (av_0 f2.1)
  rw [f0.2, av_y hr hl] at f2 f3 f4 f5 f6 ⊢
  have e2 := f2.2.2.2.2
  have e3 := f3.2.2.2
  have s0 := kS_w (k := 11) hT hl hk
  have s2 := kS_s hT f2.2.2.2.1
  have s3 := kS_s hT f3.2.2.1
  have s6 := kS_s hT f6.2.2.1
  rw [e2] at e3 s3 f3
  rw [e2, e3] at f4 f5 f6 s6
  have e6 := f6.2.2.2
  have k11 : kwL 11 = 5 := rfl
  rw [e2, e3, e6]
  have m1 := kS_mono hT (i := r.1 + 1 + 1 + 1) (j := (rS T (rS T (r.1 + 1 + 1 + 1, 0))).1) (by have a := f4.2.2.2.2.1; have b := f5.2.2.2.2.1; simp only at *; omega) f5.2.2.2.1
  refine ⟨?_, ⟨_, _, hG.block h125 (Or.inl rfl) (LV_again ⟨f2.2.2.1, ⟨f4.2.1, f4.2.2.1⟩, ⟨f5.2.1, f5.2.2.1⟩⟩) f0.1⟩, ?_⟩
  · have a := f4.2.2.2.2.1
    have b := f5.2.2.2.2.1
    simp only at *
    omega
  · exact pos_opn (ln_pos (a := 11) hG hp (by simp only at *; omega)) (fun _ => by show ¬ va_up (gA G) (gS G) 11 (gS G) = 13; rw [up_at]; decide)
theorem st_lane (hT : tOk T) (ho : rOk T r) (hr : r.2 = 0) (hk : kK T r.1 = 15) (hG : PV G u ns) (hp : pos T r G) : nxt T r (lLane T r G) := by
  have h125 := pos_125 hT ho hp (by omega)
  have hl := K_lt hT ho.1 (by omega)
  have oc : rOk T (cOu T r G) := rOk_cOu hT ho
  unfold lLane
  dsimp only
  have o2 := oc.a.N hT (lo := 0) (hi := 12)
  have o3 := o2.N hT (lo := 0) (hi := 4)
  refine ⟨o3.K hT, fun e => ?_⟩
  have f4 := rK_0 (k := 59) hT o3 (by omega) e
  have f3 := rN_0 hT o2 f4.1
  have f2 := rN_0 hT oc.a f3.1
  have f0 := cOu_0 ho (av_0 f2.1)
  rw [f0.2, av_y hr hl] at f2 f3 f4 ⊢
  have e2 := f2.2.2.2.2
  rw [e2] at f3 f4
  have e3 := f3.2.2.2.2
  rw [e3] at f4
  have e4 := f4.2.2.2
  have s0 := kS_w (k := 15) hT hl hk
  have s2 := kS_nn hT f2.2.2.2.1 f2.2.1 f3.2.1
  have s3 := kS_s hT f3.2.2.2.1
  have s4 := kS_s hT f4.2.2.1
  have k15 : kwL 15 = 4 := rfl
  rw [e2, e3, e4]
  refine ⟨by simp only; omega, ⟨_, _, hG.line h125 (by decide) (LV_lane ⟨f2.2.2.1, ?_⟩)⟩, ln_pos hG hp ?_⟩
  · have := f3.2.2.1
    split <;> omega
  · simp only at *
    omega
theorem st_hopper (hT : tOk T) (ho : rOk T r) (hr : r.2 = 0) (hk : kK T r.1 = 16) (hG : PV G u ns) (hp : pos T r G) : nxt T r (lHopper T r G) := by
  have h125 := pos_125 hT ho hp (by omega)
  have hl := K_lt hT ho.1 (by omega)
  have oc : rOk T (cOu T r G) := rOk_cOu hT ho
  unfold lHopper
  dsimp only
  have o2 := oc.a.N hT (lo := 0) (hi := 3)
  have o3 := o2.N hT (lo := 0) (hi := 12)
  have o4 := o3.N hT (lo := 0) (hi := 3)
  have o5 := o4.N hT (lo := 0) (hi := 999)
  refine ⟨o5.K hT, fun e => ?_⟩
  have f6 := rK_0 (k := 59) hT o5 (by omega) e
  have f5 := rN_0 hT o4 f6.1
  have f4 := rN_0 hT o3 f5.1
  have f3 := rN_0 hT o2 f4.1
  have f2 := rN_0 hT oc.a f3.1
  have f0 := cOu_0 ho (av_0 f2.1)
  rw [f0.2, av_y hr hl] at f2 f3 f4 f5 f6 ⊢
  have e2 := f2.2.2.2.2
  rw [e2] at f3 f4 f5 f6
  have e3 := f3.2.2.2.2
  rw [e3] at f4 f5 f6
  have e4 := f4.2.2.2.2
  rw [e4] at f5 f6
  have e5 := f5.2.2.2.2
  rw [e5] at f6
  have e6 := f6.2.2.2
  have s0 := kS_w (k := 16) hT hl hk
  have s2 := kS_s hT f2.2.2.2.1
  have s3 := kS_s hT f3.2.2.2.1
  have s4 := kS_s hT f4.2.2.2.1
  have s5 := kS_s hT f5.2.2.2.1
  have s6 := kS_s hT f6.2.2.1
  have k16 : kwL 16 = 6 := rfl
  rw [e2, e3, e4, e5, e6]
  refine ⟨by simp only; omega, ⟨_, _, hG.line h125 (by decide) (LV_hop ⟨f2.2.2.1, f3.2.2.1, f4.2.2.1, f5.2.2.1⟩)⟩, ln_pos hG hp ?_⟩
  simp only at *
  omega
theorem st_use (hT : tOk T) (ho : rOk T r) (hr : r.2 = 0) (hk : kK T r.1 = 14) (hG : PV G u ns) (hp : pos T r G) : nxt T r (lUse T r G) := by
  have h125 := pos_125 hT ho hp (by omega)
  have hl := K_lt hT ho.1 (by omega)
  unfold lUse
  dsimp only
  rw [av_y hr hl]
  have o1 : rOk T (r.1 + 1, 0) := ⟨by simp only; omega, by show (0 : Int) ≤ 0; decide, by show (0 : Int) ≤ 16005; decide⟩
  have o2 := rOk_ck hT o1
  have hfr := fnd_r (nm := gN G) (x := kI T (r.1 + 1)) (gT G) 0
  dsimp only at o2 ⊢
  generalize h2 : (if kK T (r.1 + 1) = 18 then (r.1 + 1, 0) else fl T 1 (r.1 + 1, 0)) = r2 at o2 ⊢
  generalize h3 : (if fnN G (kI T (r.1 + 1)) = -1 then fl T 2 r2 else r2) = r3
  have o3 : rOk T r3 := by
    rw [← h3]
    split
    · exact o2.f hT (by omega) (by omega)
    · exact o2
  have o5 := o3.a.K hT (k := 17)
  refine ⟨((o5.S hT).S hT).K hT, fun e => ?_⟩
  have f8 := rK_0 (k := 59) hT ((o5.S hT).S hT) (by omega) e
  have f7 := rS_0 hT (o5.S hT) f8.1
  have f6 := rS_0 hT o5 f7.1
  have f5 := rK_0 (k := 17) hT o3.a (by omega) f6.1
  have f3 := av_0 f5.1
  have hne : ¬ fnN G (kI T (r.1 + 1)) = -1 := by
    intro c
    rw [← h3, if_pos c] at f3
    exact fl_f (by omega) o2.2.1 f3
  rw [if_neg hne] at h3
  have f2 : kK T (r.1 + 1) = 18 ∧ r2 = (r.1 + 1, 0) := by
    rw [← h3] at f3
    rw [← h2] at f3 ⊢
    split at f3
    · rename_i c; exact ⟨c, if_pos c⟩
    · exact absurd f3 (fl_f (by omega) o1.2.1)
  have hl2 := K_lt (i := r.1 + 1) hT (by omega) (by omega)
  rw [← h3, f2.2, av_y rfl hl2] at f5 f6 f7 f8 ⊢
  have e5 := f5.2.2.2
  rw [e5] at f6 f7 f8
  have e8 := f8.2.2.2
  rw [e5, e8]
  have s0 := kS_ww (k := 14) hT hl hk (by unfold isW; omega) (by unfold isW; omega)
  have s1 := kS_ww (k := 18) hT hl2 f2.1 (by unfold isW; omega) (by unfold isW; have := f5.2.1; simp only at this; omega)
  have s2 := kS_w (k := 17) hT f5.2.2.1 f5.2.1
  have s8 := kS_s hT f8.2.2.1
  have k14 : kwL 14 = 3 := rfl
  have k17 : kwL 17 = 2 := rfl
  have k18 : kwL 18 = 1 := rfl
  have m1 := kS_mono hT (i := r.1 + 1 + 1 + 1) (j := (rS T (rS T (r.1 + 1 + 1 + 1, 0))).1) (by have a := f6.2.2.2.2.1; have b := f7.2.2.2.2.1; simp only at *; omega) f7.2.2.2.1
  refine ⟨?_, ⟨_, _, hG.line h125 (by decide) (LV_use ⟨⟨(fnN G (kI T (r.1 + 1))).toNat, ?_, rfl⟩, ⟨f6.2.1, f6.2.2.1⟩, ⟨f7.2.1, f7.2.2.1⟩⟩)⟩, ln_pos hG hp ?_⟩
  · have a := f6.2.2.2.2.1
    have b := f7.2.2.2.2.1
    simp only at *
    omega
  · rw [up_at]
    rcases hfr with ⟨g1, -⟩ | ⟨j, g1, g2, -, g3⟩
    · exact absurd g1 hne
    · rw [show fnN G (kI T (r.1 + 1)) = (j : Int) from g3, Int.toNat_natCast]; omega
  · simp only at *
    omega
theorem st_let (hT : tOk T) (ho : rOk T r) (hr : r.2 = 0) (hk : kK T r.1 = 13) (hG : PV G u ns) (hp : pos T r G) : nxt T r (lLet T r G) := by
  have h125 := pos_125 hT ho hp (by omega)
  have hl := K_lt hT ho.1 (by omega)
  have oc : rOk T (cOu T r G) := rOk_cOu hT ho
  unfold lLet
  dsimp only
  generalize h0 : (if 30 ≤ gT G then fl T 5 (cOu T r G) else cOu T r G) = r0
  have o0 : rOk T r0 := by
    rw [← h0]
    split
    · exact oc.f hT (by omega) (by omega)
    · exact oc
  have o2 := rOk_ck hT o0.a
  generalize h2 : (if kK T (av T r0).1 = 18 then av T r0 else fl T 1 (av T r0)) = r2 at o2 ⊢
  generalize h3 : (if fnN G (kI T (av T r0).1) = -1 then r2 else fl T 3 r2) = r3
  have o3 : rOk T r3 := by
    rw [← h3]
    split
    · exact o2
    · exact o2.f hT (by omega) (by omega)
  refine ⟨o3.a.K hT, fun e => ?_⟩
  have f5 := rK_0 (k := 40) hT o3.a (by omega) e
  have f3 := av_0 f5.1
  have hne : fnN G (kI T (av T r0).1) = -1 := by
    apply Classical.byContradiction
    intro c
    rw [← h3, if_neg c] at f3
    exact fl_f (by omega) o2.2.1 f3
  rw [if_pos hne] at h3
  have f2 : kK T (av T r0).1 = 18 ∧ r2 = av T r0 ∧ (av T r0).2 = 0 := by
    rw [← h3] at f3
    rw [← h2] at f3 ⊢
    split at f3
    · rename_i c; exact ⟨c, if_pos c, f3⟩
    · exact absurd f3 (fl_f (by omega) o0.a.2.1)
  have f0 := av_0 f2.2.2
  have h30 : gT G < 30 := by
    apply Classical.byContradiction
    intro c
    rw [← h0, if_pos (by omega)] at f0
    exact fl_f (by omega) oc.2.1 f0
  rw [if_neg (by omega)] at h0
  rw [← h0] at f0
  have fc := cOu_0 ho f0
  rw [← h0, fc.2, av_y hr hl] at f2 hne
  have hl2 := K_lt (i := r.1 + 1) hT (by omega) (by have := f2.1; simp only at this; omega)
  rw [← h3, f2.2.1, av_y rfl hl2] at f5 ⊢
  rw [← h0, fc.2, av_y hr hl]
  have e5 := f5.2.2.2
  rw [e5]
  have s0 := kS_ww (k := 13) hT hl hk (by unfold isW; omega) (by unfold isW; have := f2.1; simp only at this; omega)
  have s1 := kS_s hT hl2
  have s2 := kS_s hT f5.2.2.1
  have k13 : kwL 13 = 3 := rfl
  have hw : isW (kK T (r.1 + 1)) := by unfold isW; have := f2.1; simp only at this; omega
  have hfr := fnd_r (nm := gN G) (x := kI T (r.1 + 1)) (gT G) 0
  refine ⟨by simp only; omega, ⟨_, _, hG.let h125 fc.1 h30 (hT.2.2.2.2.2.1 _ hl2 hw).1 (fun k hk9 => ?_)⟩, ?_⟩
  · rcases hfr with ⟨-, g2⟩ | ⟨j, -, -, -, g3⟩
    · exact g2 k (by omega) (by omega)
    · have : fnN G (kI T (r.1 + 1)) = (j : Int) := g3
      simp only at hne
      omega
  · have h9 := hG.let h125 fc.1 h30 (hT.2.2.2.2.2.1 _ hl2 hw).1 (fun k hk9 => by
      rcases hfr with ⟨-, g2⟩ | ⟨j, -, -, -, g3⟩
      · exact g2 k (by omega) (by omega)
      · have : fnN G (kI T (r.1 + 1)) = (j : Int) := g3
        simp only at hne
        omega)
    have e1 : iL (gOpen (gName (gLine G 13 0 0 0 0) (kI T (r.1 + 1)) (gS G)) (gS G)) = 1 := iL_1.mpr ⟨by show 0 < gD G + 1; omega, by
      show va_up (gA G) (gS G) 13 (va_up (gO G) (gD G) (gS G) 0) = 13
      rw [fc.1, up_at, up_at]⟩
    have e0 : iL G = 0 := by have := iL_D (G := G); have := fc.1; omega
    unfold pos at *
    rw [e1]
    show 8 * (gS G + 1) ≤ _
    simp only at *
    omega
end ST
/-- a step that leaves no FAULT has gone on, and all stays sure -/
theorem pst_nxt {T : tD} {r : rdT} {G : gPr} {u ns : Nat → Nat} (hT : tOk T) (ho : rOk T r) (hr : r.2 = 0) (hG : PV G u ns) (hp : pos T r G) : nxt T r (pst T (r, G)) := by
  unfold pst
  dsimp only
  split
  · exact st_put hT ho hr (by assumption) hG hp
  split
  · exact st_again hT ho hr (by assumption) hG hp
  split
  · exact st_mirror hT ho hr (by assumption) hG hp
  split
  · exact st_let hT ho hr (by assumption) hG hp
  split
  · exact st_use hT ho hr (by assumption) hG hp
  split
  · exact st_lane hT ho hr (by assumption) hG hp
  split
  · exact st_hopper hT ho hr (by assumption) hG hp
  · exact st_close hT ho hr hG hp

