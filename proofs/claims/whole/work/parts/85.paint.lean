/-! PROGRAMS are done: s = (board, what it shows, LINES done, puts, REASON); m 1 where it is mirrored -/
abbrev qS : Type := bD × (Nat → Int) × Nat × Nat × Int
def qRe (s : qS) (z : Int) : qS := (s.1, s.2.1, s.2.2.1, s.2.2.2.1, z)
def qLd (s : qS) : qS := (s.1, s.2.1, s.2.2.1 + 1, s.2.2.2)
def tn (m z : Int) : Int := if m = 1 then -z else z
def mvP (k : Int) : Prop := k = 4 ∨ k = 7 ∨ k = 9
def qSet (s : qS) (q : Nat) (k z v : Int) : qS := (((va_up s.1.1.1 q k, va_up s.1.1.2 q z), s.1.2), va_up s.2.1 q v, s.2.2.1, s.2.2.2.1 + 1, 0)
def kMir (m k : Int) : Int := if m = 1 ∧ k = 1 then 2 else if m = 1 ∧ k = 2 then 1 else k
def qPut (k z x y m : Int) (s : qS) : qS :=
  if ¬ (0 ≤ x ∧ x < 13 ∧ 0 ≤ y ∧ y < 12) then qRe s 1 else
  if ¬ s.1.1.1 (13 * y + x).toNat = 0 then qRe s 2 else
  if (k = 4 ∨ k = 7 ∨ k = 9) ∧ mvc s.1.1.1 156 = 16 then qRe s 3 else
  qSet s (13 * y + x).toNat (kMir m k) (if k = 4 ∨ k = 9 then 0 else z) (if k = 4 ∨ k = 9 then (if m = 1 then 1 - z else z) else 0)
def qLane (s : qS) (l : Nat) (h : Int) : qS := ((s.1.1, s.1.2.1, s.1.2.2.1, va_up s.1.2.2.2.1 l h, s.1.2.2.2.2), s.2)
def qHop (s : qS) (h c : Nat) (k n : Int) : qS := ((s.1.1, va_up s.1.2.1 h k, va_up s.1.2.2.1 h c, s.1.2.2.2.1, va_up s.1.2.2.2.2 h n), s.2)
def agn (f : Int → Int → qS → qS) (sx sy : Int) : Nat → Int → Int → qS → qS
  | 0, _, _, s => s
  | n + 1, dx, dy, s => if s.2.2.2.2 = 0 then agn f sx sy n (dx + sx) (dy + sy) (f dx dy s) else s
def qLine (G : gPr) (rec : Nat → Nat → Int → Int → Int → qS → qS) (i : Nat) (m dx dy : Int) (s : qS) : qS :=
  if gA G i = 10 then qPut (g1 G i) (g2 G i) (tn m (g3 G i) + dx) (g4 G i + dy) m s
  else if gA G i = 11 then agn (fun ax ay s => rec (i + 1) (gE G i).toNat m ax ay s) (tn m (g2 G i)) (g3 G i) (g1 G i).toNat dx dy s
  else if gA G i = 12 then rec (i + 1) (gE G i).toNat (1 - m) (dx + tn m (2 * g1 G i)) dy s
  else if gA G i = 14 then rec ((g1 G i).toNat + 1) (gE G (g1 G i).toNat).toNat m (dx + tn m (g2 G i)) (dy + g3 G i) s
  else if gA G i = 15 then qLane s (g1 G i).toNat (g2 G i)
  else if gA G i = 16 then qHop s (g1 G i).toNat (g2 G i).toNat (g3 G i) (g4 G i)
  else s
def dos (G : gPr) : Nat → Nat → Nat → Int → Int → Int → qS → qS
  | 0, _, _, _, _, _, s => s
  | f + 1, i, e, m, dx, dy, s =>
    if i < e ∧ s.2.2.2.2 = 0 then
      dos G f (gE G i).toNat e m dx dy (if 2000 < s.2.2.1 + 1 then qRe (qLd s) 4 else qLine G (fun a b m2 ax ay s2 => dos G f a b m2 ax ay s2) i m dx dy (qLd s))
    else s
theorem dos_n {G : gPr} {f i e : Nat} {m dx dy : Int} {s : qS} (h : ¬ (i < e ∧ s.2.2.2.2 = 0)) : dos G (f + 1) i e m dx dy s = s := by rw [dos, if_neg h]
theorem dos_re {G : gPr} {f i e : Nat} {m dx dy : Int} {s : qS} (h : ¬ s.2.2.2.2 = 0) : dos G f i e m dx dy s = s := by
  cases f with
  | zero => rfl
  | succ f => exact dos_n (fun q => h q.2)
theorem dos_4 {G : gPr} {f i e : Nat} {m dx dy : Int} {s : qS} (h1 : i < e) (h0 : s.2.2.2.2 = 0) (h2 : 2000 < s.2.2.1 + 1) : dos G (f + 1) i e m dx dy s = qRe (qLd s) 4 := by
  rw [dos, if_pos ⟨h1, h0⟩, if_pos h2]
  exact dos_re (by show ¬ (4 : Int) = 0; decide)
theorem dos_y {G : gPr} {f i e : Nat} {m dx dy : Int} {s : qS} (h1 : i < e) (h0 : s.2.2.2.2 = 0) (h2 : ¬ 2000 < s.2.2.1 + 1) : dos G (f + 1) i e m dx dy s = dos G f (gE G i).toNat e m dx dy (qLine G (fun a b m2 ax ay s2 => dos G f a b m2 ax ay s2) i m dx dy (qLd s)) := by
  rw [dos, if_pos ⟨h1, h0⟩, if_neg h2]
/-- how deep frames may still go below LINE i -/
def kap (u ns : Nat → Nat) (i : Nat) : Nat := 155 - (5 * (30 - u i) + ns i)
/-- a stretch of LINES is a frame: it is left at its end, and none of it goes deeper than c -/
def frm (G : gPr) (u ns : Nat → Nat) (i e c : Nat) : Prop := e ≤ gS G ∧ (∀ j, i ≤ j → j < e → gE G j ≤ ((e : Nat) : Int) ∧ kap u ns j ≤ c) ∧ c ≤ 155
theorem frm.nx {G : gPr} {u ns : Nat → Nat} {i e c : Nat} (hP : PV G u ns) (h : frm G u ns i e c) (hi : i < e) : frm G u ns (gE G i).toNat e c ∧ i < (gE G i).toNat ∧ (gE G i).toNat ≤ e := by
  have h1 := (h.2.1 i (Nat.le_refl _) hi).1
  have h2 := (hP.2.2.2.2 i (by have := h.1; omega)).2.1
  exact ⟨⟨h.1, fun j j1 j2 => h.2.1 j (by omega) j2, h.2.2⟩, by omega, by omega⟩
theorem kap_p {G : gPr} {u ns : Nat → Nat} {i : Nat} (hP : PV G u ns) (hi : i < gS G) : 1 ≤ kap u ns i ∧ kap u ns i ≤ 155 := by
  have := (hP.2.2.2.2 i hi).2.2.2.2.2.1
  unfold kap
  omega
/-- what stands within again and mirror -/
theorem frm.inn {G : gPr} {u ns : Nat → Nat} {i e c : Nat} (hP : PV G u ns) (h : frm G u ns i e (c + 1)) (hi : i < e) (hA : gA G i = 11 ∨ gA G i = 12) : frm G u ns (i + 1) (gE G i).toNat c := by
  have hs : i < gS G := by have := h.1; omega
  have hl := hP.2.2.2.2 i hs
  have hT : u i ≤ 30 := by have := hl.2.2.2.2.1; have := hP.1.2.2.2; omega
  refine ⟨by have := hl.2.2.1; omega, fun j j1 j2 => ?_, by have := h.2.2; omega⟩
  have hj := hl.2.2.2.2.2.2 j (by omega) (by have := hl.2.1; omega)
  have hR := hj.2.1 hA
  refine ⟨by have := hj.1; have := hl.2.1; omega, ?_⟩
  have h1 := (h.2.1 i (Nat.le_refl _) hi).2
  have h2 := (hP.2.2.2.2 j (by have := hl.2.2.1; omega)).2.2.2.2.2.1
  unfold kap at *
  omega
/-- what stands within the let of a NAME that is used -/
theorem frm.us {G : gPr} {u ns : Nat → Nat} {i e c : Nat} (hP : PV G u ns) (h : frm G u ns i e (c + 1)) (hi : i < e) (hA : gA G i = 14) : frm G u ns ((g1 G i).toNat + 1) (gE G (g1 G i).toNat).toNat c ∧ (g1 G i).toNat < gS G ∧ 0 ≤ g1 G i ∧ ∃ k, k < gT G ∧ g1 G i = ((gL G k : Nat) : Int) := by
  have hs : i < gS G := by have := h.1; omega
  have hl := hP.2.2.2.2 i hs
  have hv := hl.2.2.2.1.2.2.2.1 hA
  obtain ⟨k, k1, k2⟩ := hv.1
  have hu := hl.2.2.2.2.1
  have hn := hP.2.1 k (by omega)
  have e1 : (g1 G i).toNat = gL G k := by omega
  have hT : u i ≤ 30 := by have := hP.1.2.2.2; omega
  rw [e1]
  have hll := hP.2.2.2.2 (gL G k) hn.2.1
  refine ⟨⟨by have := hll.2.2.1; omega, fun j j1 j2 => ?_, by have := h.2.2; omega⟩, hn.2.1, by omega, k, by omega, k2⟩
  have hj := hll.2.2.2.2.2.2 j (by omega) (by have := hll.2.1; omega)
  have hR := hj.2.2 hn.2.2.1
  have e2 := hn.2.2.2
  refine ⟨by have := hj.1; have := hll.2.1; omega, ?_⟩
  have h1 := (h.2.1 i (Nat.le_refl _) hi).2
  have h2 := (hP.2.2.2.2 j (by have := hll.2.2.1; omega)).2.2.2.2.2.1
  have h3 := hl.2.2.2.2.2.1
  unfold kap at *
  omega
/-! the state stays sound -/
def qOk (s : qS) : Prop := bOk s.1 ∧ bK s.1 s.2.1 ∧ s.2.2.1 ≤ 2001 ∧ s.2.2.2.1 ≤ s.2.2.1 ∧ 0 ≤ s.2.2.2.2 ∧ s.2.2.2.2 ≤ 4
theorem mvc_up {pc : Nat → Int} {q : Nat} {v : Int} (h0 : pc q = 0) : ∀ n, mvc (va_up pc q v) n = (if q < n ∧ (v = 4 ∨ v = 7 ∨ v = 9) then mvc pc n + 1 else mvc pc n) := by
  intro n
  induction n with
  | zero => rw [if_neg (by omega)]; rfl
  | succ n ih =>
    rw [mvc, mvc, ih]
    by_cases e : n = q
    · subst e
      rw [up_at]
      rw [if_neg (show ¬ (pc n = 4 ∨ pc n = 7 ∨ pc n = 9) by omega), if_neg (show ¬ (n < n ∧ (v = 4 ∨ v = 7 ∨ v = 9)) by omega)]
      by_cases c : v = 4 ∨ v = 7 ∨ v = 9
      · rw [if_pos c, if_pos ⟨by omega, c⟩]
      · rw [if_neg c, if_neg (fun q => c q.2)]
    · rw [up_ne e]
      by_cases c : q < n ∧ (v = 4 ∨ v = 7 ∨ v = 9)
      · rw [if_pos c, if_pos (show q < n + 1 ∧ (v = 4 ∨ v = 7 ∨ v = 9) from ⟨by omega, c.2⟩)]
        split <;> rfl
      · rw [if_neg c, if_neg (show ¬ (q < n + 1 ∧ (v = 4 ∨ v = 7 ∨ v = 9)) from fun d => c ⟨by omega, d.2⟩)]
theorem kMir_r {m k : Int} (h : 1 ≤ k ∧ k ≤ 9) : 1 ≤ kMir m k ∧ kMir m k ≤ 9 ∧ (kMir m k = 4 ↔ k = 4) ∧ (kMir m k = 7 ↔ k = 7) ∧ (kMir m k = 9 ↔ k = 9) ∧ (kMir m k = 6 ↔ k = 6) := by unfold kMir; (repeat' split) <;> omega
theorem qPut_ok {k z x y m : Int} {s : qS} (hs : qOk s) (h0 : s.2.2.2.2 = 0) (hk : 1 ≤ k ∧ k ≤ 9) (hz1 : k = 4 ∨ k = 9 → 0 ≤ z ∧ z ≤ 1) (hz2 : k = 6 → 0 ≤ z ∧ z ≤ 3) (hz3 : k = 7 → 2 ≤ z ∧ z ≤ 9) (hz4 : ¬ k = 4 → ¬ k = 9 → ¬ k = 6 → ¬ k = 7 → z = 0) (hp : s.2.2.2.1 < s.2.2.1) : qOk (qPut k z x y m s) := by
  obtain ⟨h1, h2, h3, h4, h5, h6⟩ := hs
  unfold qPut
  split
  · exact ⟨h1, h2, h3, h4, by show (0 : Int) ≤ 1; decide, by show (1 : Int) ≤ 4; decide⟩
  rename_i c1
  split
  · exact ⟨h1, h2, h3, h4, by show (0 : Int) ≤ 2; decide, by show (2 : Int) ≤ 4; decide⟩
  rename_i c2
  split
  · exact ⟨h1, h2, h3, h4, by show (0 : Int) ≤ 3; decide, by show (3 : Int) ≤ 4; decide⟩
  rename_i c3
  have hkm := kMir_r (m := m) hk
  have hq0 : s.1.1.1 (13 * y + x).toNat = 0 := Classical.byContradiction c2
  have hq : (13 * y + x).toNat < 156 := by omega
  refine ⟨⟨h1.1, h1.2.1, ?_⟩, ⟨fun q hq9 => ?_, fun q hq9 => ?_⟩, h3, by show s.2.2.2.1 + 1 ≤ s.2.2.1; omega, by show (0 : Int) ≤ 0; decide, by show (0 : Int) ≤ 4; decide⟩
  · show mvc (va_up s.1.1.1 _ _) 156 ≤ 16
    rw [mvc_up hq0]
    have := h1.2.2
    split
    · rename_i d; have : ¬ mvc s.1.1.1 156 = 16 := fun e => c3 ⟨by omega, e⟩; omega
    · exact this
  · show (0 ≤ va_up s.1.1.1 _ _ q ∧ va_up s.1.1.1 _ _ q ≤ 9) ∧ (0 ≤ va_up s.1.1.2 _ _ q ∧ va_up s.1.1.2 _ _ q ≤ 9) ∧ (0 ≤ va_up s.2.1 _ _ q ∧ va_up s.2.1 _ _ q ≤ 9) ∧ (va_up s.1.1.1 _ _ q = 7 → 2 ≤ va_up s.1.1.2 _ _ q ∧ va_up s.2.1 _ _ q < va_up s.1.1.2 _ _ q) ∧ (va_up s.1.1.1 _ _ q = 4 ∨ va_up s.1.1.1 _ _ q = 9 → va_up s.2.1 _ _ q ≤ 1) ∧ (¬ va_up s.1.1.1 _ _ q = 4 → ¬ va_up s.1.1.1 _ _ q = 7 → ¬ va_up s.1.1.1 _ _ q = 9 → va_up s.2.1 _ _ q = 0)
    by_cases e : q = (13 * y + x).toNat
    · rw [e, up_at, up_at, up_at]
      by_cases c4 : k = 4 ∨ k = 9
      · have := hz1 c4
        rw [if_pos c4, if_pos c4]
        by_cases c5 : m = 1
        · rw [if_pos c5]; exact ⟨by omega, by omega, by omega, fun d => by omega, fun d => by omega, fun d1 d2 d3 => by omega⟩
        · rw [if_neg c5]; exact ⟨by omega, by omega, by omega, fun d => by omega, fun d => by omega, fun d1 d2 d3 => by omega⟩
      · rw [if_neg c4, if_neg c4]
        have hzz : 0 ≤ z ∧ z ≤ 9 := by
          by_cases d6 : k = 6
          · have := hz2 d6; omega
          · by_cases d7 : k = 7
            · have := hz3 d7; omega
            · have := hz4 (by omega) (by omega) d6 d7; omega
        exact ⟨by omega, hzz, by omega, fun d => by have := hz3 (by omega); omega, fun d => by omega, fun _ _ _ => rfl⟩
    · rw [up_ne e, up_ne e, up_ne e]; exact h2.1 q hq9
  · show va_up s.2.1 _ _ q = 0
    rw [up_ne (by omega)]
    exact h2.2 q hq9
theorem qLane_ok {s : qS} {l : Nat} {h : Int} (hs : qOk s) (hh : -1 ≤ h ∧ h ≤ 3) : qOk (qLane s l h) := by
  obtain ⟨h1, h2, h3⟩ := hs
  refine ⟨⟨h1.1, fun x hx => ?_, h1.2.2⟩, h2, h3⟩
  show -1 ≤ va_up s.1.2.2.2.1 l h x ∧ va_up s.1.2.2.2.1 l h x < 4
  by_cases e : x = l
  · subst e; rw [up_at]; omega
  · rw [up_ne e]; exact h1.2.1 x hx
theorem qHop_ok {s : qS} {h c : Nat} {k n : Int} (hs : qOk s) (hc : c < 13) (hk : 0 ≤ k ∧ k ≤ 3) (hn : 0 ≤ n ∧ n ≤ 999) : qOk (qHop s h c k n) := by
  obtain ⟨h1, h2, h3⟩ := hs
  refine ⟨⟨fun x hx => ?_, h1.2.1, h1.2.2⟩, h2, h3⟩
  show 0 ≤ va_up s.1.2.1 h k x ∧ va_up s.1.2.1 h k x < 4 ∧ va_up s.1.2.2.1 h c x < 13 ∧ 0 ≤ va_up s.1.2.2.2.2 h n x ∧ va_up s.1.2.2.2.2 h n x ≤ 999
  by_cases e : x = h
  · subst e; rw [up_at, up_at, up_at]; omega
  · rw [up_ne e, up_ne e, up_ne e]; exact h1.1 x hx

