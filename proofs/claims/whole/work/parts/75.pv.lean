/-! what is sure of a program as it is read: u i how many NAMES were told ahead of LINE i, ns i within how many of again and mirror it stands -/
def iL (G : gPr) : Nat := if 0 < gD G ∧ gA G (gO G 0) = 13 then 1 else 0
def LV (G : gPr) (u : Nat → Nat) (i : Nat) : Prop :=
  (gA G i = 10 → (1 ≤ g1 G i ∧ g1 G i ≤ 9) ∧ (0 ≤ g3 G i ∧ g3 G i ≤ 12) ∧ (0 ≤ g4 G i ∧ g4 G i ≤ 11) ∧ (g1 G i = 4 ∨ g1 G i = 9 → 0 ≤ g2 G i ∧ g2 G i ≤ 1) ∧ (g1 G i = 6 → 0 ≤ g2 G i ∧ g2 G i ≤ 3) ∧ (g1 G i = 7 → 2 ≤ g2 G i ∧ g2 G i ≤ 9) ∧ (¬ g1 G i = 4 → ¬ g1 G i = 9 → ¬ g1 G i = 6 → ¬ g1 G i = 7 → g2 G i = 0)) ∧
  (gA G i = 11 → (1 ≤ g1 G i ∧ g1 G i ≤ 12) ∧ (-12 ≤ g2 G i ∧ g2 G i ≤ 12) ∧ (-12 ≤ g3 G i ∧ g3 G i ≤ 12)) ∧ (gA G i = 12 → 0 ≤ g1 G i ∧ g1 G i ≤ 12) ∧
  (gA G i = 14 → (∃ k, k < u i ∧ g1 G i = ((gL G k : Nat) : Int)) ∧ (-12 ≤ g2 G i ∧ g2 G i ≤ 12) ∧ (-12 ≤ g3 G i ∧ g3 G i ≤ 12)) ∧
  (gA G i = 15 → (0 ≤ g1 G i ∧ g1 G i ≤ 12) ∧ (-1 ≤ g2 G i ∧ g2 G i ≤ 3)) ∧ (gA G i = 16 → (0 ≤ g1 G i ∧ g1 G i ≤ 3) ∧ (0 ≤ g2 G i ∧ g2 G i ≤ 12) ∧ (0 ≤ g3 G i ∧ g3 G i ≤ 3) ∧ (0 ≤ g4 G i ∧ g4 G i ≤ 999))
def RG (G : gPr) (u ns : Nat → Nat) (i j : Nat) : Prop := (gA G i = 11 ∨ gA G i = 12 → u j = u i ∧ ns i + 1 ≤ ns j) ∧ (gA G i = 13 → u j = u i)
def PVo (G : gPr) (u ns : Nat → Nat) (q : Nat) : Prop := gO G q < gS G ∧ gE G (gO G q) = ((gO G q + 1 : Nat) : Int) ∧ (∀ a, a < gO G q → gE G a ≤ ((gO G q : Nat) : Int)) ∧ (∀ w, w < q → gO G w < gO G q) ∧ u (gO G q) = gT G ∧ (11 ≤ gA G (gO G q) ∧ gA G (gO G q) ≤ 13) ∧ (gA G (gO G q) = 13 → q = 0) ∧ (¬ gA G (gO G q) = 13 → ns (gO G q) + iL G = q) ∧ ∀ j, gO G q < j → j < gS G → RG G u ns (gO G q) j
def PVl (G : gPr) (u ns : Nat → Nat) (i : Nat) : Prop := (10 ≤ gA G i ∧ gA G i ≤ 16) ∧ (i : Int) < gE G i ∧ gE G i ≤ ((gS G : Nat) : Int) ∧ LV G u i ∧ u i ≤ gT G ∧ ns i ≤ 4 ∧ ∀ j, i < j → (j : Int) < gE G i → gE G j ≤ gE G i ∧ RG G u ns i j
def PVn (G : gPr) (u : Nat → Nat) (k : Nat) : Prop := vId (gN G k) ∧ gL G k < gS G ∧ gA G (gL G k) = 13 ∧ u (gL G k) = k
def PV (G : gPr) (u ns : Nat → Nat) : Prop := (gS G ≤ 125 ∧ gD G ≤ 5 ∧ nst G ≤ 4 ∧ gT G + iL G ≤ 30) ∧ (∀ k, k < gT G + iL G → PVn G u k) ∧ (∀ j k, j < gT G + iL G → k < gT G + iL G → gN G j = gN G k → j = k) ∧ (∀ q, q < gD G → PVo G u ns q) ∧ ∀ i, i < gS G → PVl G u ns i
theorem PV.ok {G : gPr} {u ns : Nat → Nat} (h : PV G u ns) : gOk G := ⟨h.1.1, by have := h.1.2.2.2; omega, h.1.2.1, fun j hj => (h.2.2.2.1 j hj).1, fun i hi => (h.2.2.2.2 i hi).1, fun k hk => (h.2.1 k (by omega)).1⟩
theorem nst_e {G : gPr} : nst G = gD G - iL G := rfl
theorem iL_le {G : gPr} : iL G ≤ 1 := by unfold iL; split <;> omega
theorem iL_1 {G : gPr} : iL G = 1 ↔ inL G := by
  unfold iL inL
  split
  · rename_i c; exact ⟨fun _ => c, fun _ => rfl⟩
  · rename_i c; exact ⟨fun q => absurd q (by decide), fun q => absurd q c⟩
theorem iL_D {G : gPr} : iL G ≤ gD G := by unfold iL; split <;> omega
theorem iL_line {G : gPr} {a x y z w : Int} (hg : gOk G) : iL (gLine G a x y z w) = iL G := by
  by_cases h : inL G
  · rw [iL_1.mpr h, iL_1.mpr ((inL_line hg).mpr h)]
  · have h2 : ¬ inL (gLine G a x y z w) := fun q => h ((inL_line hg).mp q)
    have e1 : iL G = 0 := by have := iL_le (G := G); have := iL_1 (G := G); rcases (show iL G = 0 ∨ iL G = 1 by omega) with q | q; exact q; exact absurd (iL_1.mp q) h
    have e2 : iL (gLine G a x y z w) = 0 := by have := iL_le (G := gLine G a x y z w); rcases (show iL (gLine G a x y z w) = 0 ∨ iL (gLine G a x y z w) = 1 by omega) with q | q; exact q; exact absurd (iL_1.mp q) h2
    rw [e1, e2]
theorem LV.of {G G2 : gPr} {u u2 : Nat → Nat} {i : Nat} (h : LV G u i) (ha : gA G2 i = gA G i) (h1 : g1 G2 i = g1 G i) (h2 : g2 G2 i = g2 G i) (h3 : g3 G2 i = g3 G i) (h4 : g4 G2 i = g4 G i) (hu : u2 i = u i) (hl : ∀ k, k < u i → gL G2 k = gL G k) : LV G2 u2 i := by
  unfold LV at *
  rw [ha, h1, h2, h3, h4, hu]
  refine ⟨h.1, h.2.1, h.2.2.1, fun q => ⟨?_, (h.2.2.2.1 q).2⟩, h.2.2.2.2⟩
  obtain ⟨k, k1, k2⟩ := (h.2.2.2.1 q).1
  exact ⟨k, k1, by rw [hl k k1]; exact k2⟩
/-- a LINE more -/
theorem PV.line {G : gPr} {u ns : Nat → Nat} {a x y z w : Int} (h : PV G u ns) (h125 : gS G < 125) (ha : 10 ≤ a ∧ a ≤ 16) (hv : LV (gLine G a x y z w) (va_up u (gS G) (gT G)) (gS G)) : PV (gLine G a x y z w) (va_up u (gS G) (gT G)) (va_up ns (gS G) (nst G)) := by
  have hg := h.ok
  obtain ⟨⟨b1, b2, b3, b4⟩, hn, hd, ho, hl⟩ := h
  have eL := iL_line (a := a) (x := x) (y := y) (z := z) (w := w) hg
  have eA : ∀ i, i ≠ gS G → gA (gLine G a x y z w) i = gA G i := fun i hi => up_ne hi
  have eE : ∀ i, i ≠ gS G → gE (gLine G a x y z w) i = gE G i := fun i hi => up_ne hi
  have eu : ∀ i, i ≠ gS G → va_up u (gS G) (gT G) i = u i := fun i hi => up_ne hi
  have en : ∀ i, i ≠ gS G → va_up ns (gS G) (nst G) i = ns i := fun i hi => up_ne hi
  have hRG : ∀ i j, i < gS G → j < gS G → RG G u ns i j → RG (gLine G a x y z w) (va_up u (gS G) (gT G)) (va_up ns (gS G) (nst G)) i j := fun i j hi hj q => by
    unfold RG
    rw [eA i (by omega), eu i (by omega), eu j (by omega), en i (by omega), en j (by omega)]
    exact q
  refine ⟨⟨by show gS G + 1 ≤ 125; omega, b2, by rw [nst_e, eL]; exact b3, by rw [eL]; exact b4⟩, fun k hk => ?_, fun j k hj hk => ?_, fun q hq => ?_, fun i hi => ?_⟩
  · rw [eL] at hk
    obtain ⟨n1, n2, n3, n4⟩ := hn k hk
    exact ⟨n1, by show gL G k < gS G + 1; omega, by rw [eA _ (by show gL G k ≠ gS G; omega)]; exact n3, by rw [eu _ (by show gL G k ≠ gS G; omega)]; exact n4⟩
  · rw [eL] at hj hk; exact hd j k hj hk
  · obtain ⟨o1, o2, o3, o4, o5, o6, o7, o8, o9⟩ := ho q hq
    have e : gO (gLine G a x y z w) q = gO G q := rfl
    unfold PVo
    rw [e, eE _ (by omega), eA _ (by omega), eu _ (by omega), en _ (by omega), eL]
    refine ⟨by show gO G q < gS G + 1; omega, o2, fun c hc => by rw [eE _ (by omega)]; exact o3 c hc, o4, o5, o6, o7, o8, fun j j1 j2 => ?_⟩
    have j2 : j < gS G + 1 := j2
    by_cases ej : j = gS G
    · subst ej
      unfold RG
      rw [eA (gO G q) (by omega), eu (gO G q) (by omega), en (gO G q) (by omega), up_at, up_at]
      refine ⟨fun c => ⟨o5.symm, ?_⟩, fun _ => o5.symm⟩
      have := o8 (by omega)
      rw [nst_e]
      have := iL_D (G := G)
      have hq : q < gD G := hq
      omega
    · exact hRG _ _ o1 (by omega) (o9 j j1 (by omega))
  · have hi : i < gS G + 1 := hi
    by_cases e : i = gS G
    · subst e
      refine ⟨?_, ?_, ?_, hv, ?_, ?_, fun j j1 j2 => ?_⟩
      · show 10 ≤ va_up (gA G) (gS G) a (gS G) ∧ _
        rw [show va_up (gA G) (gS G) a (gS G) = a from up_at]; exact ⟨ha.1, by show va_up (gA G) (gS G) a (gS G) ≤ 16; rw [up_at]; exact ha.2⟩
      · show _ < va_up (gE G) (gS G) _ (gS G)
        rw [up_at]; omega
      · show va_up (gE G) (gS G) _ (gS G) ≤ ((gS G + 1 : Nat) : Int)
        rw [up_at]; omega
      · rw [up_at]; exact Nat.le_refl _
      · rw [up_at]; exact b3
      · have j2 : (j : Int) < va_up (gE G) (gS G) ((gS G + 1 : Nat) : Int) (gS G) := j2
        rw [up_at] at j2; omega
    · obtain ⟨l1, l2, l3, l4, l5, l6, l7⟩ := hl i (by omega)
      unfold PVl
      rw [eA i e, eE i e, eu i e, en i e]
      refine ⟨l1, l2, by show gE G i ≤ ((gS G + 1 : Nat) : Int); omega, l4.of (eA i e) (up_ne e) (up_ne e) (up_ne e) (up_ne e) (eu i e) (fun _ _ => rfl), l5, l6, fun j j1 j2 => ?_⟩
      rw [eE j (by omega)]
      exact ⟨(l7 j j1 j2).1, hRG i j (by omega) (by omega) (l7 j j1 j2).2⟩
/-- the last LINE is opened -/
theorem PV.opn {G : gPr} {u ns : Nat → Nat} {i : Nat} (h : PV G u ns) (hi : gS G = i + 1) (hE : gE G i = ((i + 1 : Nat) : Int)) (hu : u i = gT G) (hA : gA G i = 11 ∨ gA G i = 12) (hns : ns i = nst G) (h4 : nst G < 4) (hcl : ∀ c, c < i → gE G c ≤ ((i : Nat) : Int)) (hov : ∀ v, v < gD G → gO G v < i) : PV (gOpen G i) u ns := by
  have hg := h.ok
  obtain ⟨⟨b1, b2, b3, b4⟩, hn, hd, ho, hl⟩ := h
  have hD5 : gD G ≤ 4 := by have := nst_le (G := G); rw [nst_e] at h4; have := iL_le (G := G); omega
  have eO : ∀ q, q < gD G → gO (gOpen G i) q = gO G q := fun q hq => up_ne (by omega)
  have eO2 : gO (gOpen G i) (gD G) = i := up_at
  have eL : iL (gOpen G i) = iL G := by
    have q1 : inL (gOpen G i) ↔ inL G := by
      unfold inL
      by_cases e : gD G = 0
      · constructor
        · rintro ⟨-, q⟩
          have q : gA G (gO (gOpen G i) 0) = 13 := q
          rw [show gO (gOpen G i) 0 = i from by rw [← e]; exact eO2] at q
          omega
        · rintro ⟨q, -⟩; omega
      · constructor
        · rintro ⟨-, q⟩
          have q : gA G (gO (gOpen G i) 0) = 13 := q
          rw [eO 0 (by omega)] at q
          exact ⟨by omega, q⟩
        · rintro ⟨q1, q2⟩
          refine ⟨by show 0 < gD G + 1; omega, ?_⟩
          show gA G (gO (gOpen G i) 0) = 13
          rw [eO 0 q1]; exact q2
    by_cases c : inL G
    · rw [iL_1.mpr c, iL_1.mpr (q1.mpr c)]
    · have c2 : ¬ inL (gOpen G i) := fun q => c (q1.mp q)
      have e1 : iL G = 0 := by have := iL_le (G := G); rcases (show iL G = 0 ∨ iL G = 1 by omega) with q | q; exact q; exact absurd (iL_1.mp q) c
      have e2 : iL (gOpen G i) = 0 := by have := iL_le (G := gOpen G i); rcases (show iL (gOpen G i) = 0 ∨ iL (gOpen G i) = 1 by omega) with q | q; exact q; exact absurd (iL_1.mp q) c2
      rw [e1, e2]
  refine ⟨⟨b1, by show gD G + 1 ≤ 5; omega, by rw [nst_e, eL]; show gD G + 1 - iL G ≤ 4; rw [nst_e] at h4; omega, by rw [eL]; exact b4⟩, fun k hk => by rw [eL] at hk; exact hn k hk, fun j k hj hk => by rw [eL] at hj hk; exact hd j k hj hk, fun q hq => ?_, hl⟩
  have hq : q < gD G + 1 := hq
  by_cases e : q = gD G
  · subst e
    unfold PVo
    rw [eO2, eL]
    refine ⟨by show i < gS G; omega, hE, fun c hc => ?_, fun v hv => ?_, hu, by show 11 ≤ gA G i ∧ gA G i ≤ 13; omega, fun c => absurd (show gA G i = 13 from c) (by omega), fun _ => ?_, fun j j1 j2 => absurd (show j < gS G from j2) (by omega)⟩
    · exact hcl c hc
    · rw [eO v hv]; exact hov v hv
    · rw [hns, nst_e]; have := iL_D (G := G); omega
  · obtain ⟨o1, o2, o3, o4, o5, o6, o7, o8, o9⟩ := ho q (by omega)
    unfold PVo
    rw [eO q (by omega), eL]
    exact ⟨o1, o2, o3, fun v hv => by rw [eO v (by omega)]; exact o4 v hv, o5, o6, o7, o8, o9⟩

/-- again or mirror -/
theorem PV.block {G : gPr} {u ns : Nat → Nat} {a x y z : Int} (h : PV G u ns) (h125 : gS G < 125) (ha : a = 11 ∨ a = 12) (hv : LV (gLine G a x y z 0) (va_up u (gS G) (gT G)) (gS G)) (h4 : nst G < 4) : PV (gOpen (gLine G a x y z 0) (gS G)) (va_up u (gS G) (gT G)) (va_up ns (gS G) (nst G)) := by
  have h1 := h.line (x := x) (y := y) (z := z) (w := 0) h125 (show 10 ≤ a ∧ a ≤ 16 by omega) hv
  have hg := h.ok
  have en : nst (gLine G a x y z 0) = nst G := by rw [nst_e, nst_e, iL_line hg]; rfl
  refine h1.opn rfl ?_ ?_ ?_ ?_ (by rw [en]; exact h4) (fun c hc => ?_) (fun v hv2 => (h.2.2.2.1 v hv2).1)
  · show va_up (gE G) (gS G) _ (gS G) = _
    rw [up_at]
  · rw [up_at]; rfl
  · show va_up (gA G) (gS G) a (gS G) = 11 ∨ va_up (gA G) (gS G) a (gS G) = 12
    rw [up_at]; exact ha
  · rw [up_at, en]
  · show va_up (gE G) (gS G) _ c ≤ _
    rw [up_ne (by omega)]
    exact (h.2.2.2.2 c hc).2.2.1
/-- let -/
theorem PV.let {G : gPr} {u ns : Nat → Nat} {m : Nat} (h : PV G u ns) (h125 : gS G < 125) (hd0 : gD G = 0) (h30 : gT G < 30) (hm : vId m) (hnew : ∀ k, k < gT G → ¬ gN G k = m) : PV (gOpen (gName (gLine G 13 0 0 0 0) m (gS G)) (gS G)) (va_up u (gS G) (gT G)) (va_up ns (gS G) (nst G)) := by
  have hg := h.ok
  have hv : LV (gLine G 13 0 0 0 0) (va_up u (gS G) (gT G)) (gS G) := by
    have e : gA (gLine G 13 0 0 0 0) (gS G) = 13 := up_at
    unfold LV
    rw [e]
    exact ⟨fun q => absurd q (by decide), fun q => absurd q (by decide), fun q => absurd q (by decide), fun q => absurd q (by decide), fun q => absurd q (by decide), fun q => absurd q (by decide)⟩
  have h1 := h.line (x := 0) (y := 0) (z := 0) (w := 0) h125 (show (10 : Int) ≤ 13 ∧ (13 : Int) ≤ 16 by decide) hv
  have e0 : iL G = 0 := by have := iL_D (G := G); omega
  have eL1 : iL (gLine G 13 0 0 0 0) = 0 := by rw [iL_line hg]; exact e0
  obtain ⟨⟨b1, b2, b3, b4⟩, hn, hd, ho, hl⟩ := h1
  have eA : gA (gLine G 13 0 0 0 0) (gS G) = 13 := up_at
  have eO : gO (gOpen (gName (gLine G 13 0 0 0 0) m (gS G)) (gS G)) 0 = gS G := by
    show va_up (gO G) (gD G) (gS G) 0 = gS G
    rw [hd0, up_at]
  have eD : gD (gOpen (gName (gLine G 13 0 0 0 0) m (gS G)) (gS G)) = 1 := by show gD G + 1 = 1; omega
  have eL : iL (gOpen (gName (gLine G 13 0 0 0 0) m (gS G)) (gS G)) = 1 := iL_1.mpr ⟨by rw [eD]; decide, by rw [eO]; exact eA⟩
  have hnk : ∀ k, k < gT G → PVn (gLine G 13 0 0 0 0) (va_up u (gS G) (gT G)) k := fun k hk => hn k (by rw [eL1]; exact hk)
  refine ⟨⟨b1, by rw [eD]; decide, by rw [nst_e, eL, eD]; decide, by rw [eL]; exact h30⟩, fun k hk => ?_, fun j k hj hk e => ?_, fun q hq => ?_, fun i hi => ?_⟩
  · rw [eL] at hk
    have hk : k < gT G + 1 := hk
    by_cases e : k = gT G
    · subst e
      refine ⟨?_, ?_, ?_, ?_⟩
      · show vId (va_up (gN G) (gT G) m (gT G)); rw [up_at]; exact hm
      · show va_up (gL G) (gT G) (gS G) (gT G) < gS G + 1; rw [up_at]; omega
      · show gA (gLine G 13 0 0 0 0) (va_up (gL G) (gT G) (gS G) (gT G)) = 13; rw [up_at]; exact eA
      · show va_up u (gS G) (gT G) (va_up (gL G) (gT G) (gS G) (gT G)) = gT G; rw [up_at, up_at]
    · obtain ⟨n1, n2, n3, n4⟩ := hnk k (by omega)
      have e1 : gN (gOpen (gName (gLine G 13 0 0 0 0) m (gS G)) (gS G)) k = gN G k := up_ne e
      have e2 : gL (gOpen (gName (gLine G 13 0 0 0 0) m (gS G)) (gS G)) k = gL G k := up_ne e
      refine ⟨by rw [e1]; exact n1, by rw [e2]; exact n2, ?_, ?_⟩
      · rw [e2]; exact n3
      · rw [e2]; exact n4
  · rw [eL] at hj hk
    have hj : j < gT G + 1 := hj
    have hk : k < gT G + 1 := hk
    have e : va_up (gN G) (gT G) m j = va_up (gN G) (gT G) m k := e
    by_cases e1 : j = gT G
    · by_cases e2 : k = gT G
      · omega
      · rw [e1, up_at, up_ne e2] at e; exact absurd e.symm (hnew k (by omega))
    · by_cases e2 : k = gT G
      · rw [e2, up_at, up_ne e1] at e; exact absurd e (hnew j (by omega))
      · rw [up_ne e1, up_ne e2] at e
        exact h.2.2.1 j k (by omega) (by omega) e
  · rw [eD] at hq
    obtain rfl : q = 0 := by omega
    unfold PVo
    rw [eO, eL]
    refine ⟨by show gS G < gS G + 1; omega, ?_, fun c hc => ?_, fun v hv2 => by omega, ?_, ?_, fun _ => rfl, fun c => absurd eA c, fun j j1 j2 => absurd (show j < gS G + 1 from j2) (by omega)⟩
    · show va_up (gE G) (gS G) _ (gS G) = _; rw [up_at]
    · show va_up (gE G) (gS G) _ c ≤ _; rw [up_ne (by omega)]; exact (h.2.2.2.2 c hc).2.2.1
    · rw [up_at]; rfl
    · show 11 ≤ gA (gLine G 13 0 0 0 0) (gS G) ∧ gA (gLine G 13 0 0 0 0) (gS G) ≤ 13; rw [eA]; decide
  · obtain ⟨l1, l2, l3, l4, l5, l6, l7⟩ := hl i hi
    refine ⟨l1, l2, l3, l4.of rfl rfl rfl rfl rfl rfl (fun k hk => ?_), l5, l6, l7⟩
    have l5 : va_up u (gS G) (gT G) i ≤ gT G := l5
    show va_up (gL G) (gT G) (gS G) k = gL G k
    rw [up_ne (by omega)]
/-- what ends LINES -/
theorem PV.cls {G : gPr} {u ns : Nat → Nat} (h : PV G u ns) (hD : 0 < gD G) : PV (gClose G) u ns := by
  have hg := h.ok
  obtain ⟨⟨b1, b2, b3, b4⟩, hn, hd, ho, hl⟩ := h
  obtain ⟨o1, o2, o3, o4, o5, o6, o7, o8, o9⟩ := ho (gD G - 1) (by omega)
  have eE : ∀ i, i ≠ gO G (gD G - 1) → gE (gClose G) i = gE G i := fun i hi => up_ne hi
  have eE2 : gE (gClose G) (gO G (gD G - 1)) = ((gS G : Nat) : Int) := up_at
  have eT : gT (gClose G) + iL (gClose G) = gT G + iL G ∧ gT G ≤ gT (gClose G) ∧ nst (gClose G) ≤ 4 ∧ (0 < gD (gClose G) → gT (gClose G) = gT G ∧ iL (gClose G) = iL G) := by
    by_cases c : gA G (gO G (gD G - 1)) = 13
    · have c1 := o7 c
      have c2 : gD G = 1 := by omega
      have e1 : gT (gClose G) = gT G + 1 := if_pos c
      have e2 : gD (gClose G) = 0 := by show gD G - 1 = 0; omega
      have e3 : iL (gClose G) = 0 := by have := iL_D (G := gClose G); omega
      have e4 : iL G = 1 := iL_1.mpr ⟨hD, by rw [c1] at c; exact c⟩
      exact ⟨by omega, by omega, by rw [nst_e]; omega, fun q => by omega⟩
    · have e1 : gT (gClose G) = gT G := if_neg c
      have e2 : gD (gClose G) = gD G - 1 := rfl
      by_cases d1 : gD G = 1
      · have e3 : iL (gClose G) = 0 := by have := iL_D (G := gClose G); omega
        have e4 : iL G = 0 := by
          have := iL_le (G := G)
          rcases (show iL G = 0 ∨ iL G = 1 by omega) with q | q
          · exact q
          · have := (iL_1.mp q).2
            rw [show gD G - 1 = 0 by omega] at c
            exact absurd this c
        exact ⟨by omega, by omega, by rw [nst_e]; omega, fun q => by omega⟩
      · have q1 : inL (gClose G) ↔ inL G := ⟨fun q => ⟨hD, q.2⟩, fun q => ⟨by rw [e2]; omega, q.2⟩⟩
        have e3 : iL (gClose G) = iL G := by
          by_cases c2 : inL G
          · rw [iL_1.mpr c2, iL_1.mpr (q1.mpr c2)]
          · have f1 : iL G = 0 := by have := iL_le (G := G); rcases (show iL G = 0 ∨ iL G = 1 by omega) with q | q; exact q; exact absurd (iL_1.mp q) c2
            have f2 : iL (gClose G) = 0 := by have := iL_le (G := gClose G); rcases (show iL (gClose G) = 0 ∨ iL (gClose G) = 1 by omega) with q | q; exact q; exact absurd (q1.mp (iL_1.mp q)) c2
            rw [f1, f2]
        rw [nst_e] at b3
        exact ⟨by omega, by omega, by rw [nst_e]; omega, fun _ => ⟨e1, e3⟩⟩
  refine ⟨⟨b1, by show gD G - 1 ≤ 5; omega, eT.2.2.1, by omega⟩, fun k hk => hn k (by omega), fun j k hj hk => hd j k (by omega) (by omega), fun q hq => ?_, fun i hi => ?_⟩
  · have hq2 : q < gD G - 1 := hq
    obtain ⟨p1, p2, p3, p4, p5, p6, p7, p8, p9⟩ := ho q (by omega)
    have hlt := o4 q hq2
    have eT2 := eT.2.2.2 (by show 0 < gD G - 1; omega)
    unfold PVo
    rw [show gO (gClose G) q = gO G q from rfl, eE _ (by omega), eT2.1, eT2.2]
    exact ⟨p1, p2, fun c hc => by rw [eE _ (by omega)]; exact p3 c hc, p4, p5, p6, p7, p8, p9⟩
  · have hi : i < gS G := hi
    obtain ⟨l1, l2, l3, l4, l5, l6, l7⟩ := hl i hi
    have l4' : LV (gClose G) u i := l4.of rfl rfl rfl rfl rfl rfl (fun _ _ => rfl)
    by_cases e : i = gO G (gD G - 1)
    · subst e
      unfold PVl
      rw [eE2]
      refine ⟨l1, by omega, Int.le_refl _, l4', by omega, l6, fun j j1 j2 => ?_⟩
      rw [eE j (by omega)]
      exact ⟨(hl j (by omega)).2.2.1, o9 j j1 (by omega)⟩
    · unfold PVl
      rw [eE i e]
      refine ⟨l1, l2, l3, l4', by omega, l6, fun j j1 j2 => ?_⟩
      by_cases ej : j = gO G (gD G - 1)
      · subst ej
        have := o3 i j1
        omega
      · rw [eE j ej]; exact l7 j j1 j2

