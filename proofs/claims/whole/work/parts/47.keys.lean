/-! what a board shows, as a key: both sides' numbers of it tell the same apart -/
def N156 (sh : Nat → Int) : Prop := ∀ p, 156 ≤ p → sh p = 0
def Ksh (pc sz sh : Nat → Int) : Prop := Wfb pc sz sh ∧ N156 sh
theorem aSend_N {pc sz tr : Nat → Int} {st kd l : Int} {p : Nat} {sh : Nat → Int} (hp : p < 156) (h : N156 sh) : N156 (aSend pc sz tr st kd p l sh).2 := by
  intro q hq
  have h1 := h q hq
  unfold aSend
  repeat' split
  all_goals first | exact h1 | (simp only; rw [up_ne (by omega)]; exact h1) | (simp only; unfold aFlip; rw [if_neg (by omega)]; exact h1)
theorem aDr_N {pc sz tr : Nat → Int} {st kd : Int} : ∀ (n x : Nat) (l : Int) (sh : Nat → Int), n ≤ 12 → x < 13 → N156 sh → N156 (aDr pc sz tr st kd n x l sh).2
  | 0, x, l, sh, _, _, h => h
  | n + 1, x, l, sh, hn, hx, h => by
    have hs := aSend_N (pc := pc) (sz := sz) (tr := tr) (st := st) (kd := kd) (l := l) (p := 13 * (11 - n) + x) (by omega) h
    unfold aDr
    split
    · exact h
    split
    · exact h
    split
    · exact aDr_N n x l sh (by omega) hx h
    split
    · split
      · exact hs
      · exact aDr_N n (x - 1) 0 _ (by omega) (by omega) hs
    · split
      · exact hs
      · exact aDr_N n (x + 1) 1 _ (by omega) (by omega) hs
theorem aDr_K {pc sz tr : Nat → Int} {st kd : Int} {x : Nat} {l : Int} {sh : Nat → Int} (hx : x < 13) (hl : l = 0 ∨ l = 1) (h : Ksh pc sz sh) : Ksh pc sz (aDr pc sz tr st kd 12 x l sh).2 :=
  ⟨(aDr_wf 12 x l sh (Nat.le_refl _) hx hl h.1).1, aDr_N 12 x l sh (Nat.le_refl _) hx h.2⟩
theorem Ksh.ext {pc sz s1 s2 : Nat → Int} (h1 : Ksh pc sz s1) (h2 : Ksh pc sz s2) (h : ∀ p, p < 156 → (pc p = 4 ∨ pc p = 7 ∨ pc p = 9) → s1 p = s2 p) : s1 = s2 := by
  funext p
  by_cases hp : p < 156
  · by_cases hm : pc p = 4 ∨ pc p = 7 ∨ pc p = 9
    · exact h p hp hm
    · rw [(h1.1 p hp).2.2.2.2.2 (by omega) (by omega) (by omega), (h2.1 p hp).2.2.2.2.2 (by omega) (by omega) (by omega)]
  · rw [h1.2 p (by omega), h2.2 p (by omega)]
theorem BE.inj {pc sz s1 s2 : Nat → Int} {ix : Nat → Nat} {v : Int64} (hx : Ixw pc ix) (k1 : Ksh pc sz s1) (k2 : Ksh pc sz s2) (h1 : BE pc ix v s1) (h2 : BE pc ix v s2) : s1 = s2 := by
  refine k1.ext k2 (fun p hp hm => ?_)
  have a1 := k1.1 p hp
  have a2 := k2.1 p hp
  rw [← h1.nb hx hp hm (by omega) (by omega), ← h2.nb hx hp hm (by omega) (by omega)]
theorem Wfb.lt {pc sz sh : Nat → Int} (h : Wfb pc sz sh) : ∀ p, p < 156 → 0 ≤ sh p ∧ sh p < 16 := fun p hp => by have := h p hp; omega
theorem lN_inj {a b : Nat} (ha : a < 2 ^ 64) (hb : b < 2 ^ 64) (h : lN a = lN b) : a = b := by
  rw [← wb_tn ha, ← wb_tn hb, h]
theorem cdN_key {pc sz s1 s2 : Nat → Int} (hc : mvc pc 156 ≤ 16) (k1 : Ksh pc sz s1) (k2 : Ksh pc sz s2) : lN (cdN pc s1 156) = lN (cdN pc s2 156) ↔ s1 = s2 := by
  constructor
  · intro h
    exact k1.ext k2 (cdN_inj k1.1.lt k2.1.lt 156 (Nat.le_refl _) (lN_inj (cdN_64 k1.1.lt hc (Nat.le_refl _)) (cdN_64 k2.1.lt hc (Nat.le_refl _)) h))
  · intro h; rw [h]
theorem jL_key {a b : Nat} (ha : a < 4) (hb : b < 4) : jL (a : Int) = jL (b : Int) ↔ a = b := by
  constructor
  · intro h
    rw [jL_lN (by omega), jL_lN (by omega), Int.toNat_natCast, Int.toNat_natCast] at h
    exact lN_inj (by omega) (by omega) h
  · intro h; rw [h]
/-! COMES ROUND: keys are a showing and the HOPPER that drops next -/
def rnd {κ : Type} (stp : κ → Option κ) : Nat → Nat → (Nat → κ) → κ → Int → Int → Prop
  | 0, _, _, _, _, _ => False
  | m + 1, n, K, k, a, b => (∃ i, i < n ∧ K i = k ∧ a = (i : Int) ∧ b = (n : Int) - (i : Int)) ∨ ((¬ ∃ i, i < n ∧ K i = k) ∧ ((n = 4000 ∨ stp k = none) ∧ a = -1 ∧ b = -1 ∨ n < 4000 ∧ ∃ k2, stp k = some k2 ∧ rnd stp m (n + 1) (va_up K n k) k2 a b))
def Inj {κ : Type} (n : Nat) (K : Nat → κ) : Prop := ∀ i j, i < n → j < n → K i = K j → i = j
theorem Inj.up {κ : Type} {n : Nat} {K : Nat → κ} {k : κ} (h : Inj n K) (hk : ¬ ∃ i, i < n ∧ K i = k) : Inj (n + 1) (va_up K n k) := by
  intro i j hi hj e
  by_cases e1 : i = n
  · by_cases e2 : j = n
    · omega
    · subst e1
      rw [up_at, up_ne e2] at e
      exact absurd ⟨j, by omega, e.symm⟩ hk
  · by_cases e2 : j = n
    · subst e2
      rw [up_at, up_ne e1] at e
      exact absurd ⟨i, by omega, e⟩ hk
    · rw [up_ne e1, up_ne e2] at e
      exact h i j (by omega) (by omega) e
theorem rnd_det {κ : Type} {stp : κ → Option κ} : ∀ (m n : Nat) (K : Nat → κ) (k : κ) (a b a2 b2 : Int), Inj n K → rnd stp m n K k a b → rnd stp m n K k a2 b2 → a = a2 ∧ b = b2 := by
  intro m
  induction m with
  | zero => intro n K k a b a2 b2 _ h; exact h.elim
  | succ m ih =>
    intro n K k a b a2 b2 hI h h2
    rw [rnd] at h h2
    rcases h with ⟨i, i1, i2, i3, i4⟩ | ⟨hn, h⟩
    · rcases h2 with ⟨j, j1, j2, j3, j4⟩ | ⟨hn2, -⟩
      · have := hI i j i1 j1 (i2.trans j2.symm)
        subst this
        exact ⟨by omega, by omega⟩
      · exact absurd ⟨i, i1, i2⟩ hn2
    · rcases h2 with ⟨j, j1, j2, j3, j4⟩ | ⟨hn2, h2⟩
      · exact absurd ⟨j, j1, j2⟩ hn
      · rcases h with ⟨c, e1, e2⟩ | ⟨c, k2, e1, e2⟩
        · rcases h2 with ⟨c2, f1, f2⟩ | ⟨c2, k3, f1, f2⟩
          · exact ⟨by omega, by omega⟩
          · rcases c with c | c
            · omega
            · rw [c] at f1; cases f1
        · rcases h2 with ⟨c2, f1, f2⟩ | ⟨c2, k3, f1, f2⟩
          · rcases c2 with c2 | c2
            · omega
            · rw [c2] at e1; cases e1
          · rw [e1] at f1
            cases f1
            exact ih (n + 1) _ k2 a b a2 b2 (hI.up hn) e2 f2
/-- one MARBLE: what is shown then, and whence the next one comes -/
def dHow (pc sz tr : Nat → Int) (kd : Nat → Int) (co : Nat → Nat) (st : Int) (sh : Nat → Int) (h : Nat) : Int × (Nat → Int) := aDr pc sz tr st (kd h) 12 (co h) (if h % 2 = 0 then 1 else 0) sh
def stp (pc sz tr : Nat → Int) (kd : Nat → Int) (co : Nat → Nat) (lv : Nat → Int) (k : (Nat → Int) × Nat) : Option ((Nat → Int) × Nat) :=
  if (dHow pc sz tr kd co (-2) k.1 k.2).1 < 256 ∧ 0 ≤ lv (dHow pc sz tr kd co (-2) k.1 k.2).1.toNat then some ((dHow pc sz tr kd co (-2) k.1 k.2).2, (lv (dHow pc sz tr kd co (-2) k.1 k.2).1.toNat).toNat) else none
theorem dHow_K {pc sz tr : Nat → Int} {kd : Nat → Int} {co : Nat → Nat} {st : Int} {sh : Nat → Int} {h : Nat} (hc : co h < 13) (hk : Ksh pc sz sh) : Ksh pc sz (dHow pc sz tr kd co st sh h).2 ∧ 0 ≤ (dHow pc sz tr kd co st sh h).1 ∧ (dHow pc sz tr kd co st sh h).1 < 1024 ∧ ((dHow pc sz tr kd co st sh h).1 < 256 → (dHow pc sz tr kd co st sh h).1 < 13) := by
  have hl : (if h % 2 = 0 then (1 : Int) else 0) = 0 ∨ (if h % 2 = 0 then (1 : Int) else 0) = 1 := by split <;> omega
  have := aDr_wf (tr := tr) (st := st) (kd := kd h) 12 (co h) _ sh (Nat.le_refl _) hc hl hk.1
  exact ⟨aDr_K hc hl hk, this.2⟩
