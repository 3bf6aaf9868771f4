/-! WISHES: W p what the PLACE p is to show, -1 where there is no WISH -/
def wIs (W sh : Nat → Int) : Prop := ∀ p, p < 156 → 0 ≤ W p → sh p = W p
def wOk (W pc : Nat → Int) : Prop := ∀ p, p < 156 → 0 ≤ W p → pc p = 4 ∨ pc p = 9
/-- n WISHES in two rows -/
def WL (n : Nat) (f g W : Nat → Int) : Prop := n ≤ 12 ∧ (∀ i, i < n → 0 ≤ f i ∧ f i < 156 ∧ g i = W (f i).toNat ∧ 0 ≤ g i ∧ g i ≤ 1) ∧ (∀ p : Nat, p < 156 → 0 ≤ W p → ∃ i, i < n ∧ f i = (p : Int)) ∧ ∀ i j, i < n → j < n → f i = f j → i = j
theorem WL.ok {n : Nat} {f g W pc : Nat → Int} (h : WL n f g W) : wOk W pc ↔ ∀ i, i < n → pc (f i).toNat = 4 ∨ pc (f i).toNat = 9 := by
  constructor
  · intro q i hi
    have := h.2.1 i hi
    exact q _ (by omega) (by omega)
  · intro q x hx hw
    obtain ⟨i, hi, e⟩ := h.2.2.1 x hx hw
    have := q i hi
    rw [e, Int.toNat_natCast] at this
    exact this
theorem WL.is {n : Nat} {f g W sh : Nat → Int} (h : WL n f g W) : wIs W sh ↔ ∀ i, i < n → sh (f i).toNat = g i := by
  constructor
  · intro q i hi
    have := h.2.1 i hi
    rw [this.2.2.1]
    exact q _ (by omega) (by omega)
  · intro q x hx hw
    obtain ⟨i, hi, e⟩ := h.2.2.1 x hx hw
    have h1 := q i hi
    rw [(h.2.1 i hi).2.2.1, e, Int.toNat_natCast] at h1
    exact h1
theorem BE.b0 {pc sh : Nat → Int} {ix : Nat → Nat} {v : Int64} (h : BE pc ix v sh) (hx : Ixw pc ix) {x : Nat} (hp : x < 156) (hm : mvg (pc x)) (h0 : 0 ≤ sh x) (h1 : sh x ≤ 1) : bl v (4 * ix x) = true ↔ sh x = 1 := by
  have hi := hx.1 x hp
  rw [h _ (by omega)]
  constructor
  · rintro ⟨q, q1, q2, q3, q4, q5⟩
    have e : ix q = ix x := by omega
    have := hx.2 q x q1 hp q2 hm e
    subst this
    rw [Nat.sub_self] at q5
    rcases (show sh q = 0 ∨ sh q = 1 by omega) with e0 | e0
    · rw [e0] at q5; exact absurd q5 (by decide)
    · exact e0
  · intro e0
    exact ⟨x, hp, hm, Nat.le_refl _, by omega, by rw [Nat.sub_self, e0]; decide⟩
def mkB (ix : Nat → Nat) (f : Nat → Int) (c : Nat → Prop) (n : Nat) (v : Int64) : Prop := ∀ j, j < 64 → (bl v j = true ↔ ∃ k, k < n ∧ c k ∧ j = 4 * ix (f k).toNat)
theorem mkB_0 {ix : Nat → Nat} {f : Nat → Int} {c : Nat → Prop} : mkB ix f c 0 0 := fun j hj => by rw [bl_0]; constructor; (intro h; cases h); (rintro ⟨k, hk, -⟩; omega)
theorem mkB_yes {ix : Nat → Nat} {f : Nat → Int} {c : Nat → Prop} {n : Nat} {v : Int64} (h : mkB ix f c n v) (hc : c n) (hx : ix (f n).toNat < 16) : mkB ix f c (n + 1) (v ||| (1 <<< (Int32.toInt64 (iI ((4 * ix (f n).toNat : Nat) : Int)) &&& 63))) := by
  intro j hj
  rw [bl_or, bl_shl 1 (by omega) hj]
  constructor
  · intro q
    rw [Bool.or_eq_true] at q
    rcases q with q | q
    · obtain ⟨k, k1, k2, k3⟩ := (h j hj).mp q
      exact ⟨k, by omega, k2, k3⟩
    · rw [Bool.and_eq_true, decide_eq_true_eq, bl_1 _ (by omega), decide_eq_true_eq] at q
      exact ⟨n, by omega, hc, by omega⟩
  · rintro ⟨k, k1, k2, k3⟩
    rw [Bool.or_eq_true]
    by_cases e : k = n
    · subst e
      right
      rw [Bool.and_eq_true, decide_eq_true_eq, bl_1 _ (by omega), decide_eq_true_eq]
      omega
    · exact Or.inl ((h j hj).mpr ⟨k, by omega, k2, k3⟩)
theorem mkB_no {ix : Nat → Nat} {f : Nat → Int} {c : Nat → Prop} {n : Nat} {v z : Int64} (h : mkB ix f c n v) (hc : ¬ c n) (hz : ∀ j, j < 64 → bl z j = false) : mkB ix f c (n + 1) (v ||| z) := by
  intro j hj
  rw [bl_or, hz j hj, Bool.or_false]
  constructor
  · intro q
    obtain ⟨k, k1, k2, k3⟩ := (h j hj).mp q
    exact ⟨k, by omega, k2, k3⟩
  · rintro ⟨k, k1, k2, k3⟩
    by_cases e : k = n
    · subst e; exact absurd k2 hc
    · exact (h j hj).mpr ⟨k, by omega, k2, k3⟩
theorem wi_key {D : bD} {ix : Nat → Nat} {W f g : Nat → Int} {n : Nat} {ma go : Int64} (hx : Ixw D.1.1 ix) (hW : WL n f g W) (ho : ∀ i, i < n → D.1.1 (f i).toNat = 4 ∨ D.1.1 (f i).toNat = 9) (hm : mkB ix f (fun _ => True) n ma) (hg : mkB ix f (fun k => g k = 1) n go) {v : Int64} {k : Nat → Int} (hE : BE D.1.1 ix v k) (hk : bK D k) : (v &&& ma) = go ↔ wIs W k := by
  have hb : ∀ i, i < n → (bl v (4 * ix (f i).toNat) = true ↔ k (f i).toNat = 1) ∧ 0 ≤ k (f i).toNat ∧ k (f i).toNat ≤ 1 := fun i hi => by
    have h1 := hW.2.1 i hi
    have h2 := hk.1 (f i).toNat (by omega)
    have h3 := ho i hi
    have h4 := h2.2.2.2.2.1 h3
    exact ⟨hE.b0 hx (by omega) (by unfold mvg; omega) (by omega) h4, by omega, h4⟩
  have hu : ∀ i j, i < n → j < n → 4 * ix (f i).toNat = 4 * ix (f j).toNat → i = j := fun i j hi hj e => by
    have h1 := hW.2.1 i hi
    have h2 := hW.2.1 j hj
    have h3 := ho i hi
    have h4 := ho j hj
    have := hx.2 _ _ (by omega) (by omega) (by unfold mvg; omega) (by unfold mvg; omega) (show ix (f i).toNat = ix (f j).toNat by omega)
    exact hW.2.2.2 i j hi hj (by omega)
  rw [hW.is]
  constructor
  · intro e i hi
    have h1 := hW.2.1 i hi
    have hlt := hx.1 (f i).toNat (by omega)
    have h2 := hb i hi
    have e2 : bl (v &&& ma) (4 * ix (f i).toNat) = bl go (4 * ix (f i).toNat) := by rw [e]
    rw [bl_and, (hm _ (by omega)).mpr ⟨i, hi, trivial, rfl⟩, Bool.and_true] at e2
    by_cases q : g i = 1
    · have := (hg (4 * ix (f i).toNat) (by omega)).mpr ⟨i, hi, q, rfl⟩
      rw [this] at e2
      rw [q]; exact h2.1.mp e2
    · have : ¬ k (f i).toNat = 1 := by
        intro q2
        rw [h2.1.mpr q2] at e2
        obtain ⟨j, j1, j2, j3⟩ := (hg (4 * ix (f i).toNat) (by omega)).mp e2.symm
        have := hu i j hi j1 j3
        subst this
        exact q j2
      omega
  · intro q
    refine bl_ext (fun j hj => ?_)
    rw [bl_and, Bool.eq_iff_iff, Bool.and_eq_true]
    constructor
    · rintro ⟨q1, q2⟩
      obtain ⟨i, i1, -, i3⟩ := (hm j hj).mp q2
      subst i3
      have h2 := (hb i i1).1.mp q1
      have h3 := q i i1
      exact (hg _ hj).mpr ⟨i, i1, by omega, rfl⟩
    · intro q2
      obtain ⟨i, i1, i2, i3⟩ := (hg j hj).mp q2
      subst i3
      have h3 := q i i1
      exact ⟨(hb i i1).1.mpr (by omega), (hm _ hj).mpr ⟨i, i1, trivial, rfl⟩⟩
/-- THE WAY -/
def wyN (D : bD) (k : Nat → Int) (h : Nat) : Nat → Int := (bH D (-2) k h).2
noncomputable def wyG (D : bD) (W s : Nat → Int) : Int × (Nat → Int) := bfs (fun _ _ => False) (wyN D) (wIs W) (-1) 15000 0 0 1 (fun _ => s) (fun _ => -1) (fun _ => -1)
noncomputable def wyF (D : bD) (W s : Nat → Int) : Int × (Nat → Int) := by
  classical exact if wOk W D.1.1 then (if wIs W s then (0, fun _ => 0) else wyG D W s) else (-1, fun _ => 0)
theorem wyF_no {D : bD} {W s : Nat → Int} (h : ¬ wOk W D.1.1) : wyF D W s = (-1, fun _ => 0) := by rw [wyF, if_neg h]
theorem wyF_0 {D : bD} {W s : Nat → Int} (h : wOk W D.1.1) (h2 : wIs W s) : wyF D W s = (0, fun _ => 0) := by rw [wyF, if_pos h, if_pos h2]
theorem wyF_s {D : bD} {W s : Nat → Int} (h : wOk W D.1.1) (h2 : ¬ wIs W s) : wyF D W s = wyG D W s := by rw [wyF, if_pos h, if_neg h2]
theorem jL_0 {z : Int} (h : z = 0) : jL z = 0 := by subst h; rfl
theorem jL_1 {z : Int} (h : z = 1) : jL z = 1 := by subst h; rfl

