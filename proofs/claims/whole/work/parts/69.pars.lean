/-! PROGRAMS are read: T the tokens; r = (the token at hand, the FAULT); G the program so far -/
abbrev tD : Type := Nat × (Nat → Int) × (Nat → Nat) × (Nat → Nat) × (Nat → Nat)
abbrev kK (T : tD) : Nat → Int := T.2.1
abbrev kS (T : tD) : Nat → Nat := T.2.2.1
abbrev kV (T : tD) : Nat → Nat := T.2.2.2.1
abbrev kI (T : tD) : Nat → Nat := T.2.2.2.2
abbrev rdT : Type := Nat × Int
def tOk (T : tD) : Prop := TOK T.1 (kK T) (kS T) (kV T) (kI T)
def fl (T : tD) (w : Int) (r : rdT) : rdT := if r.2 = 0 then (r.1, w + 16 * ((kS T r.1 : Nat) : Int)) else r
def av (T : tD) (r : rdT) : rdT := if r.2 = 0 ∧ r.1 < T.1 then (r.1 + 1, 0) else r
def rK (T : tD) (k : Int) (r : rdT) : rdT := av T (if kK T r.1 = k then r else fl T 1 r)
def rN (T : tD) (lo hi : Int) (r : rdT) : rdT := av T (if kK T r.1 = 19 then (if ((kV T r.1 : Nat) : Int) < lo ∨ hi < ((kV T r.1 : Nat) : Int) then fl T 4 r else r) else fl T 1 r)
def rS (T : tD) (r : rdT) : rdT := rN T 0 12 (if kK T r.1 = 45 then av T r else r)
def sV (T : tD) (r : rdT) : Int := if kK T r.1 = 45 then -((kV T (av T r).1 : Nat) : Int) else ((kV T r.1 : Nat) : Int)
/-- a place among the tokens -/
def rOk (T : tD) (r : rdT) : Prop := r.1 ≤ T.1 ∧ 0 ≤ r.2 ∧ r.2 ≤ 16005
theorem fl_n {T : tD} {w : Int} {r : rdT} (h : ¬ r.2 = 0) : fl T w r = r := if_neg h
theorem av_n {T : tD} {r : rdT} (h : ¬ r.2 = 0) : av T r = r := if_neg (fun q => h q.1)
theorem fl_f {T : tD} {w : Int} {r : rdT} (hw : 1 ≤ w) (hr : 0 ≤ r.2) : ¬ (fl T w r).2 = 0 := by
  unfold fl
  split
  · simp only; omega
  · assumption
theorem av_0 {T : tD} {r : rdT} (h : (av T r).2 = 0) : r.2 = 0 := by
  unfold av at h
  split at h
  · rename_i q; exact q.1
  · exact h
theorem av_2 {T : tD} {r : rdT} : (av T r).2 = r.2 := by
  unfold av
  split
  · rename_i q; exact q.1.symm
  · rfl
theorem rK_n {T : tD} {k : Int} {r : rdT} (h : ¬ r.2 = 0) : rK T k r = r := by unfold rK; rw [fl_n h]; split <;> exact av_n h
theorem rN_n {T : tD} {lo hi : Int} {r : rdT} (h : ¬ r.2 = 0) : rN T lo hi r = r := by unfold rN; rw [fl_n h, fl_n h]; (repeat' split) <;> exact av_n h
theorem rS_n {T : tD} {r : rdT} (h : ¬ r.2 = 0) : rS T r = r := by unfold rS; rw [av_n h]; split <;> exact rN_n h
theorem rOk_fl {T : tD} {w : Int} {r : rdT} (hT : tOk T) (h : rOk T r) (h1 : 1 ≤ w) (h2 : w ≤ 5) (hs : kS T r.1 ≤ 1000) : rOk T (fl T w r) := by
  unfold fl
  split
  · exact ⟨h.1, by simp only; omega, by simp only; omega⟩
  · exact h

theorem kS_le {T : tD} (hT : tOk T) : ∀ m i, i + m = T.1 → kS T i ≤ 1000 := by
  intro m
  induction m with
  | zero => intro i h; rw [show i = T.1 by omega]; exact hT.2.2.1
  | succ m ih =>
    intro i h
    have h1 := ih (i + 1) (by omega)
    have h2 := hT.2.2.2.2.2.2.1 i (by omega)
    omega
theorem kS_1000 {T : tD} (hT : tOk T) {i : Nat} (h : i ≤ T.1) : kS T i ≤ 1000 := kS_le hT (T.1 - i) i (by omega)
theorem rOk.f {T : tD} {w : Int} {r : rdT} (hT : tOk T) (h : rOk T r) (h1 : 1 ≤ w) (h2 : w ≤ 5) : rOk T (fl T w r) := rOk_fl hT h h1 h2 (kS_1000 hT h.1)
theorem rOk.a {T : tD} {r : rdT} (h : rOk T r) : rOk T (av T r) := by
  unfold av
  split
  · rename_i q; exact ⟨by simp only; omega, by simp only; omega, by simp only; omega⟩
  · exact h
theorem rOk.K {T : tD} {k : Int} {r : rdT} (hT : tOk T) (h : rOk T r) : rOk T (rK T k r) := by
  unfold rK
  split
  · exact h.a
  · exact (h.f hT (by omega) (by omega)).a
theorem rOk.N {T : tD} {lo hi : Int} {r : rdT} (hT : tOk T) (h : rOk T r) : rOk T (rN T lo hi r) := by
  unfold rN
  split
  · split
    · exact (h.f hT (by omega) (by omega)).a
    · exact h.a
  · exact (h.f hT (by omega) (by omega)).a
theorem rOk.S {T : tD} {r : rdT} (hT : tOk T) (h : rOk T r) : rOk T (rS T r) := by
  unfold rS
  split
  · exact h.a.N hT
  · exact h.N hT
/-- what stands at a token that is no end -/
theorem K_lt {T : tD} (hT : tOk T) {i : Nat} (h : i ≤ T.1) (hk : ¬ kK T i = 22) : i < T.1 := by
  rcases (show i < T.1 ∨ i = T.1 by omega) with q | q
  · exact q
  · rw [q] at hk; exact absurd hT.2.1 hk
theorem av_y {T : tD} {r : rdT} (h : r.2 = 0) (h2 : r.1 < T.1) : av T r = (r.1 + 1, 0) := if_pos ⟨h, h2⟩
theorem rK_0 {T : tD} {k : Int} {r : rdT} (hT : tOk T) (ho : rOk T r) (hk : ¬ k = 22) (h : (rK T k r).2 = 0) : r.2 = 0 ∧ kK T r.1 = k ∧ r.1 < T.1 ∧ rK T k r = (r.1 + 1, 0) := by
  unfold rK at h ⊢
  split at h
  · rename_i q
    have h0 := av_0 h
    have hl := K_lt hT ho.1 (by omega)
    exact ⟨h0, q, hl, by rw [if_pos q, av_y h0 hl]⟩
  · exact absurd (av_0 h) (fl_f (by omega) ho.2.1)
theorem rN_0 {T : tD} {lo hi : Int} {r : rdT} (hT : tOk T) (ho : rOk T r) (h : (rN T lo hi r).2 = 0) : r.2 = 0 ∧ kK T r.1 = 19 ∧ (lo ≤ ((kV T r.1 : Nat) : Int) ∧ ((kV T r.1 : Nat) : Int) ≤ hi) ∧ r.1 < T.1 ∧ rN T lo hi r = (r.1 + 1, 0) := by
  unfold rN at h ⊢
  split at h
  · rename_i q
    split at h
    · exact absurd (av_0 h) (fl_f (by omega) ho.2.1)
    · rename_i q2
      have h0 := av_0 h
      have hl := K_lt hT ho.1 (by omega)
      exact ⟨h0, q, by omega, hl, by rw [if_pos q, if_neg q2, av_y h0 hl]⟩
  · exact absurd (av_0 h) (fl_f (by omega) ho.2.1)
theorem rS_0 {T : tD} {r : rdT} (hT : tOk T) (ho : rOk T r) (h : (rS T r).2 = 0) : r.2 = 0 ∧ -12 ≤ sV T r ∧ sV T r ≤ 12 ∧ (rS T r).1 ≤ T.1 ∧ r.1 + 1 ≤ (rS T r).1 ∧ (kK T r.1 = 45 ∧ kK T (r.1 + 1) = 19 ∧ (rS T r).1 = r.1 + 2 ∨ kK T r.1 = 19 ∧ (rS T r).1 = r.1 + 1) := by
  unfold rS sV at *
  split at h
  · rename_i q
    have h1 := rN_0 hT ho.a h
    have h0 := av_0 h1.1
    have hl := K_lt hT ho.1 (by omega)
    have e := av_y h0 hl
    rw [if_pos q]
    rw [if_pos q]
    rw [e] at h1 ⊢
    refine ⟨h0, by omega, by omega, ?_, ?_, ?_⟩
    · rw [h1.2.2.2.2]; exact h1.2.2.2.1
    · rw [h1.2.2.2.2]; simp only; omega
    · exact Or.inl ⟨q, h1.2.1, by rw [h1.2.2.2.2]⟩
  · rename_i q
    have h1 := rN_0 hT ho h
    rw [if_neg q]
    rw [if_neg q]
    refine ⟨h1.1, by omega, by omega, ?_, ?_, ?_⟩
    · rw [h1.2.2.2.2]; exact h1.2.2.2.1
    · rw [h1.2.2.2.2]; exact Nat.le_refl _
    · exact Or.inr ⟨h1.2.1, by rw [h1.2.2.2.2]⟩
/-! a program: ((size, told, depth), (acts, ends), (four numbers), names, their lines, the open lines) -/
abbrev gPr : Type := (Nat × Nat × Nat) × ((Nat → Int) × (Nat → Int)) × ((Nat → Int) × (Nat → Int) × (Nat → Int) × (Nat → Int)) × (Nat → Nat) × (Nat → Nat) × (Nat → Nat)
abbrev gS (G : gPr) : Nat := G.1.1
abbrev gT (G : gPr) : Nat := G.1.2.1
abbrev gD (G : gPr) : Nat := G.1.2.2
abbrev gA (G : gPr) : Nat → Int := G.2.1.1
abbrev gE (G : gPr) : Nat → Int := G.2.1.2
abbrev g1 (G : gPr) : Nat → Int := G.2.2.1.1
abbrev g2 (G : gPr) : Nat → Int := G.2.2.1.2.1
abbrev g3 (G : gPr) : Nat → Int := G.2.2.1.2.2.1
abbrev g4 (G : gPr) : Nat → Int := G.2.2.1.2.2.2
abbrev gN (G : gPr) : Nat → Nat := G.2.2.2.1
abbrev gL (G : gPr) : Nat → Nat := G.2.2.2.2.1
abbrev gO (G : gPr) : Nat → Nat := G.2.2.2.2.2
def gLine (G : gPr) (a x y z w : Int) : gPr := ((gS G + 1, gT G, gD G), (va_up (gA G) (gS G) a, va_up (gE G) (gS G) ((gS G + 1 : Nat) : Int)), (va_up (g1 G) (gS G) x, va_up (g2 G) (gS G) y, va_up (g3 G) (gS G) z, va_up (g4 G) (gS G) w), gN G, gL G, gO G)
def gName (G : gPr) (x i : Nat) : gPr := (G.1, G.2.1, G.2.2.1, va_up (gN G) (gT G) x, va_up (gL G) (gT G) i, gO G)
def gOpen (G : gPr) (i : Nat) : gPr := ((gS G, gT G, gD G + 1), G.2.1, G.2.2.1, gN G, gL G, va_up (gO G) (gD G) i)
def gClose (G : gPr) : gPr := ((gS G, (if gA G (gO G (gD G - 1)) = 13 then gT G + 1 else gT G), gD G - 1), (gA G, va_up (gE G) (gO G (gD G - 1)) ((gS G : Nat) : Int)), G.2.2.1, gN G, gL G, gO G)
def inL (G : gPr) : Prop := 0 < gD G ∧ gA G (gO G 0) = 13
/-- how many of again and mirror are open -/
def nst (G : gPr) : Nat := gD G - (if 0 < gD G ∧ gA G (gO G 0) = 13 then 1 else 0)
def fnd (nm : Nat → Nat) (x : Nat) : Nat → Nat → Int
  | 0, _ => -1
  | m + 1, i => if nm i = x then (i : Int) else fnd nm x m (i + 1)
def fnN (G : gPr) (x : Nat) : Int := fnd (gN G) x (gT G) 0
theorem fnd_r {nm : Nat → Nat} {x : Nat} : ∀ m i, (fnd nm x m i = -1 ∧ ∀ j, i ≤ j → j < i + m → ¬ nm j = x) ∨ ∃ j : Nat, i ≤ j ∧ j < i + m ∧ nm j = x ∧ fnd nm x m i = (j : Int) := by
  intro m
  induction m with
  | zero => intro i; exact Or.inl ⟨rfl, fun j h1 h2 => by omega⟩
  | succ m ih =>
    intro i
    rw [fnd]
    split
    · rename_i q; exact Or.inr ⟨i, Nat.le_refl _, by omega, q, rfl⟩
    · rename_i q
      rcases ih (i + 1) with ⟨h1, h2⟩ | ⟨j, h1, h2, h3⟩
      · refine Or.inl ⟨h1, fun j h3 h4 => ?_⟩
        by_cases e : j = i
        · subst e; exact q
        · exact h2 j (by omega) (by omega)
      · exact Or.inr ⟨j, by omega, by omega, h3⟩
abbrev pS2 : Type := rdT × gPr
def lPut (T : tD) (r : rdT) (G : gPr) : pS2 :=
  let r1 := av T r
  let q := kK T r1.1
  let r2 := av T (if 1 ≤ q ∧ q ≤ 9 then r1 else fl T 1 r1)
  let r3 := if q = 4 ∨ q = 9 then rN T 0 1 r2 else if q = 6 then rN T 0 3 r2 else if q = 7 then rN T 2 9 r2 else r2
  (rK T 59 (rN T 0 11 (rN T 0 12 r3)), gLine G 10 q (if q = 4 ∨ q = 9 ∨ q = 6 ∨ q = 7 then ((kV T r2.1 : Nat) : Int) else 0) ((kV T r3.1 : Nat) : Int) ((kV T (rN T 0 12 r3).1 : Nat) : Int))
def cNs (T : tD) (r : rdT) (G : gPr) : rdT := if 4 ≤ nst G then fl T 5 r else r
def cOu (T : tD) (r : rdT) (G : gPr) : rdT := if 0 < gD G then fl T 1 r else r
def lAgain (T : tD) (r : rdT) (G : gPr) : pS2 :=
  let r1 := av T (cNs T r G)
  let r3 := rK T 17 (rN T 1 12 r1)
  (rK T 40 (rS T (rS T r3)), gOpen (gLine G 11 ((kV T r1.1 : Nat) : Int) (sV T r3) (sV T (rS T r3)) 0) (gS G))
def lMirror (T : tD) (r : rdT) (G : gPr) : pS2 :=
  let r1 := av T (cNs T r G)
  (rK T 40 (rN T 0 12 r1), gOpen (gLine G 12 ((kV T r1.1 : Nat) : Int) 0 0 0) (gS G))
def lLet (T : tD) (r : rdT) (G : gPr) : pS2 :=
  let r1 := av T (if 30 ≤ gT G then fl T 5 (cOu T r G) else cOu T r G)
  let r2 := if kK T r1.1 = 18 then r1 else fl T 1 r1
  let r3 := if fnN G (kI T r1.1) = -1 then r2 else fl T 3 r2
  (rK T 40 (av T r3), gOpen (gName (gLine G 13 0 0 0 0) (kI T r1.1) (gS G)) (gS G))
def lUse (T : tD) (r : rdT) (G : gPr) : pS2 :=
  let r1 := av T r
  let r2 := if kK T r1.1 = 18 then r1 else fl T 1 r1
  let r3 := if fnN G (kI T r1.1) = -1 then fl T 2 r2 else r2
  let r5 := rK T 17 (av T r3)
  (rK T 59 (rS T (rS T r5)), gLine G 14 ((gL G (fnN G (kI T r1.1)).toNat : Nat) : Int) (sV T r5) (sV T (rS T r5)) 0)
def lLane (T : tD) (r : rdT) (G : gPr) : pS2 :=
  let r1 := av T (cOu T r G)
  let r2 := rN T 0 12 r1
  (rK T 59 (rN T 0 4 r2), gLine G 15 ((kV T r1.1 : Nat) : Int) (if ((kV T r2.1 : Nat) : Int) = 4 then -1 else ((kV T r2.1 : Nat) : Int)) 0 0)
def lHopper (T : tD) (r : rdT) (G : gPr) : pS2 :=
  let r1 := av T (cOu T r G)
  let r2 := rN T 0 3 r1
  let r3 := rN T 0 12 r2
  let r4 := rN T 0 3 r3
  (rK T 59 (rN T 0 999 r4), gLine G 16 ((kV T r1.1 : Nat) : Int) ((kV T r2.1 : Nat) : Int) ((kV T r3.1 : Nat) : Int) ((kV T r4.1 : Nat) : Int))
def lClose (T : tD) (r : rdT) (G : gPr) : pS2 := (rK T 59 (rK T 41 (if gD G = 0 then fl T 1 r else r)), gClose G)
/-- one LINE, or what ends some -/
def pst (T : tD) (x : pS2) : pS2 :=
  let k := kK T x.1.1
  if k = 10 then lPut T x.1 x.2 else if k = 11 then lAgain T x.1 x.2 else if k = 12 then lMirror T x.1 x.2 else if k = 13 then lLet T x.1 x.2 else if k = 14 then lUse T x.1 x.2 else if k = 15 then lLane T x.1 x.2 else if k = 16 then lHopper T x.1 x.2 else lClose T x.1 x.2
def rdn (T : tD) (x : pS2) : Prop := ¬ x.1.2 = 0 ∨ kK T x.1.1 = 22 ∧ gD x.2 = 0

