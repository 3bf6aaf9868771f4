/-! TRAINS, by a queue: s = (trains so far, the queue, its end) -/
def too (pc : Nat → Int) (p : Nat) : Prop := pc p = 4 ∨ pc p = 8
abbrev tS : Type := (Nat → Int) × (Nat → Nat) × Nat
def rch (pc : Nat → Int) (f : Nat) (ok : Prop) [Decidable ok] (pl : Nat) (s : tS) : tS := if ok ∧ s.1 pl = -1 ∧ (pc pl = 4 ∨ pc pl = 8) then (va_up s.1 pl (f : Int), va_up s.2.1 s.2.2 pl, s.2.2 + 1) else s
def nb4 (pc : Nat → Int) (f p : Nat) (s : tS) : tS := rch pc f (p + 13 < 156) (p + 13) (rch pc f (13 ≤ p) (p - 13) (rch pc f (p % 13 < 12) (p + 1) (rch pc f (0 < p % 13) (p - 1) s)))
def tlp (pc : Nat → Int) (f : Nat) : Nat → Nat → tS → tS
  | 0, _, s => s
  | n + 1, i, s => if i < s.2.2 then tlp pc f n (i + 1) (nb4 pc f (s.2.1 i) s) else s
def tnk (pc : Nat → Int) (f : Nat) (tr : Nat → Int) : tS := tlp pc f 157 0 (rch pc f True f (tr, (fun _ => 0), 0))
def tal (pc : Nat → Int) : Nat → (Nat → Int)
  | 0 => fun _ => -1
  | n + 1 => (tnk pc n (tal pc n)).1
/-- how many places have no train yet -/
def cu (tr : Nat → Int) : Nat → Nat
  | 0 => 0
  | n + 1 => cu tr n + (if tr n = -1 then 1 else 0)
theorem cu_le (tr : Nat → Int) : ∀ n, cu tr n ≤ n
  | 0 => Nat.le_refl 0
  | n + 1 => by have := cu_le tr n; unfold cu; split <;> omega
theorem cu_pos {tr : Nat → Int} : ∀ {n p : Nat}, p < n → tr p = -1 → 0 < cu tr n
  | 0, p, h, _ => by omega
  | n + 1, p, h, e => by
    unfold cu
    by_cases hp : p = n
    · subst hp; rw [if_pos e]; omega
    · have := cu_pos (n := n) (show p < n by omega) e; omega
theorem cu_ge {tr : Nat → Int} {v : Int} {p : Nat} : ∀ {n : Nat}, n ≤ p → cu (va_up tr p v) n = cu tr n
  | 0, _ => rfl
  | n + 1, h => by unfold cu; rw [cu_ge (n := n) (by omega), up_ne (by omega)]
theorem cu_up {tr : Nat → Int} {v : Int} {p : Nat} (e : tr p = -1) (hv : ¬ v = -1) : ∀ {n : Nat}, p < n → cu (va_up tr p v) n + 1 = cu tr n
  | 0, h => by omega
  | n + 1, h => by
    unfold cu
    by_cases hp : p = n
    · subst hp; rw [cu_ge (Nat.le_refl _), up_at, if_neg hv, if_pos e]
    · have := cu_up e hv (n := n) (show p < n by omega)
      rw [up_ne (fun q => hp q.symm)]; omega
/-- while train f is laid: what is in the queue, and what has a train -/
def tI (pc tr0 : Nat → Int) (f : Nat) (s : tS) : Prop :=
  s.2.2 + cu s.1 156 ≤ 156 ∧ (∀ i, i < s.2.2 → s.2.1 i < 156 ∧ s.1 (s.2.1 i) = (f : Int)) ∧ (∀ p, s.1 p = (f : Int) → ∃ i, i < s.2.2 ∧ s.2.1 i = p) ∧ (∀ p, ¬ s.1 p = (f : Int) → s.1 p = tr0 p) ∧ (∀ p, s.1 p = (f : Int) → tr0 p = -1 ∧ p < 156 ∧ (pc p = 4 ∨ pc p = 8))
theorem rch_I {pc tr0 : Nat → Int} {f pl : Nat} {ok : Prop} [Decidable ok] {s : tS} (h : tI pc tr0 f s) (hp : ok → pl < 156) : tI pc tr0 f (rch pc f ok pl s) ∧ s.2.2 ≤ (rch pc f ok pl s).2.2 ∧ (∀ i, i < s.2.2 → (rch pc f ok pl s).2.1 i = s.2.1 i) := by
  unfold rch
  split
  · rename_i hc
    obtain ⟨h1, h2, h3, h4, h5⟩ := h
    have hpl := hp hc.1
    have hcu := cu_up (v := (f : Int)) hc.2.1 (by omega) hpl
    refine ⟨⟨by simp only; omega, fun i hi => ?_, fun q hq => ?_, fun q hq => ?_, fun q hq => ?_⟩, by simp only; omega, fun i hi => up_ne (by omega)⟩
    · simp only at hi ⊢
      by_cases e : i = s.2.2
      · subst e; rw [up_at, up_at]; exact ⟨hpl, rfl⟩
      · rw [up_ne e]
        obtain ⟨a, b⟩ := h2 i (by omega)
        refine ⟨a, ?_⟩
        by_cases e2 : s.2.1 i = pl
        · rw [e2, up_at]
        · rw [up_ne e2]; exact b
    · simp only at hq ⊢
      by_cases e : q = pl
      · subst e; exact ⟨s.2.2, by omega, up_at⟩
      · rw [up_ne e] at hq
        obtain ⟨i, a, b⟩ := h3 q hq
        exact ⟨i, by omega, by rw [up_ne (by omega)]; exact b⟩
    · simp only at hq ⊢
      by_cases e : q = pl
      · subst e; rw [up_at] at hq; exact absurd rfl hq
      · rw [up_ne e] at hq ⊢; exact h4 q hq
    · simp only at hq
      by_cases e : q = pl
      · subst e
        refine ⟨?_, hpl, hc.2.2⟩
        rw [← h4 q (by rw [hc.2.1]; omega)]; exact hc.2.1
      · rw [up_ne e] at hq; exact h5 q hq
  · exact ⟨h, Nat.le_refl _, fun _ _ => rfl⟩
theorem nb4_I {pc tr0 : Nat → Int} {f p : Nat} {s : tS} (h : tI pc tr0 f s) (hp : p < 156) : tI pc tr0 f (nb4 pc f p s) ∧ s.2.2 ≤ (nb4 pc f p s).2.2 ∧ (∀ i, i < s.2.2 → (nb4 pc f p s).2.1 i = s.2.1 i) := by
  obtain ⟨a1, a2, a3⟩ := rch_I (ok := 0 < p % 13) (pl := p - 1) h (by omega)
  obtain ⟨b1, b2, b3⟩ := rch_I (ok := p % 13 < 12) (pl := p + 1) a1 (by omega)
  obtain ⟨c1, c2, c3⟩ := rch_I (ok := 13 ≤ p) (pl := p - 13) b1 (by omega)
  obtain ⟨d1, d2, d3⟩ := rch_I (ok := p + 13 < 156) (pl := p + 13) c1 (by omega)
  refine ⟨d1, by unfold nb4; omega, fun i hi => ?_⟩
  unfold nb4
  rw [d3 i (by omega), c3 i (by omega), b3 i (by omega), a3 i hi]
theorem tlp_I {pc tr0 : Nat → Int} {f : Nat} : ∀ (n i : Nat) (s : tS), tI pc tr0 f s → tI pc tr0 f (tlp pc f n i s)
  | 0, _, _, h => h
  | n + 1, i, s, h => by
    unfold tlp
    split
    · rename_i hi
      exact tlp_I n (i + 1) _ (nb4_I h (h.2.1 i hi).1).1
    · exact h
/-- the trains of the places below n -/
def tA (pc : Nat → Int) (n : Nat) (tr : Nat → Int) : Prop := (∀ p, tr p = -1 ∨ (0 ≤ tr p ∧ tr p < n ∧ p < 156 ∧ (pc p = 4 ∨ pc p = 8))) ∧ ∀ p, p < n → p < 156 → (pc p = 4 ∨ pc p = 8) → ¬ tr p = -1
theorem tnk_I {pc tr : Nat → Int} {f : Nat} (hf : f < 156) (h : tA pc f tr) : tI pc tr f (tnk pc f tr) ∧ tA pc (f + 1) (tnk pc f tr).1 := by
  have h0 : tI pc tr f (tr, (fun _ => 0), 0) := ⟨by simp only; have := cu_le tr 156; omega, fun i hi => by simp only at hi; omega, fun p hp => by simp only at hp; rcases h.1 p with q | q <;> omega, fun p _ => rfl, fun p hp => by simp only at hp; rcases h.1 p with q | q <;> omega⟩
  have h1 := (rch_I (ok := True) (pl := f) h0 (fun _ => hf)).1
  have h2 : tI pc tr f (tnk pc f tr) := tlp_I 157 0 _ h1
  refine ⟨h2, fun p => ?_, fun p hp hp2 ht => ?_⟩
  · by_cases e : (tnk pc f tr).1 p = (f : Int)
    · right; obtain ⟨a, b, c⟩ := h2.2.2.2.2 p e; refine ⟨by omega, by omega, b, c⟩
    · rw [h2.2.2.2.1 p e]
      rcases h.1 p with q | q
      · exact Or.inl q
      · exact Or.inr ⟨q.1, by omega, q.2.2⟩
  · intro e
    have e1 : ¬ (tnk pc f tr).1 p = (f : Int) := by rw [e]; omega
    rw [h2.2.2.2.1 p e1] at e
    by_cases hpf : p = f
    · subst hpf
      apply e1
      have key : ∀ (n i : Nat) (s : tS), tI pc tr p s → s.1 p = (p : Int) → (tlp pc p n i s).1 p = (p : Int) := by
        intro n
        induction n with
        | zero => intro i s _ h; exact h
        | succ n ih =>
          intro i s hI hs
          unfold tlp
          split
          · rename_i hi
            have hq := (hI.2.1 i hi).1
            have mono : ∀ (ok : Prop) [Decidable ok] (pl : Nat) (t : tS), t.1 p = (p : Int) → (rch pc p ok pl t).1 p = (p : Int) := by
              intro ok _ pl t ht
              unfold rch
              split
              · simp only
                by_cases e2 : p = pl
                · subst e2; rw [up_at]
                · rw [up_ne e2]; exact ht
              · exact ht
            exact ih (i + 1) _ (nb4_I hI hq).1 (mono _ _ _ (mono _ _ _ (mono _ _ _ (mono _ _ _ hs))))
          · exact hs
      refine key 157 0 _ h1 ?_
      unfold rch
      rw [if_pos ⟨trivial, e, ht⟩]
      exact up_at
    · exact h.2 p (by omega) hp2 ht e
theorem tal_A {pc : Nat → Int} : ∀ n, n ≤ 156 → tA pc n (tal pc n)
  | 0, _ => ⟨fun p => Or.inl rfl, fun p hp => by omega⟩
  | n + 1, h => (tnk_I (by omega) (tal_A n (by omega))).2
