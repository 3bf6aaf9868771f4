/-! THE MACHINE FOLLOWS THE PURE ONE: the world of a memory, and a row for each rule -/
theorem iI_nat (n : Nat) : iI (n : Int) = nI n := by
  show Int32.ofInt (n : Int) = Int32.ofNat n
  first | exact Int32.ofInt_natCast n | exact (Int32.ofNat_eq_ofInt n).symm | exact Int32.ofInt_eq_ofNat | (apply Int32.toBitVec_inj.mp; simp)
abbrev pX : Type := Nat × Nat × Heap × va_G
def pAd (X : pX) (k : Nat) : Nat := match k with
  | 0 => X.1
  | 1 => X.2.1
  | k + 2 => X.2.2.1.size + k
def pTv (X : pX) (v : Value) : Value := match v with
  | .ref a => .ref (pAd X a)
  | .int x => .int x
  | .long x => .long x
  | .float x => .float x
  | .double x => .double x
  | .null => .null
  | .retAddr x => .retAddr x
def pRf (X : pX) (r : Option Nat) : Value := match r with
  | none => .null
  | some a => .ref (pAd X a)
def pFv (X : pX) (M : pM) (a k ty : Nat) : Value := if ty = 1 then .long (M.2.2 a k) else if ty = 2 then pRf X (M.1.2.2 a k) else .int (iI (M.2.1 a k))
def pAv (X : pX) (M : pM) (t a j : Nat) : Value := if t = 3 then .long (M.2.2 a j) else if t = 6 then pRf X (M.1.2.2 a j) else .int (iI (M.2.1 a j))
def pAt (t : Nat) : FieldType := if t = 2 then .int else if t = 3 then .long else if t = 4 then .byte else if t = 5 then .boolean else .object RX0
def pObj (X : pX) (M : pM) (H : Heap) (a ci : Nat) : Prop := ∃ q : vw_C, vwCl[ci]? = some q ∧ t_OB (pAd X a) (X.2.2.2.1 ci) q.2.2 (X.2.2.2.2 ci) H (fun k => pFv X M a k (pTy (q.2.1 k).2.2.1))
def pArr (X : pX) (M : pM) (U : State) (H : Heap) (a t n : Nat) : Prop := n < 2 ^ 31 ∧ ∃ cA : ClassId, ArrOfT U cA (pAt t) ∧ va_RA U cA (pAt t) ∧ H[pAd X a]? = some (arrV cA n (pAv X M t a))
def pCell (X : pX) (M : pM) (U : State) (H : Heap) (a : Nat) : Prop :=
  (∀ ci, M.1.2.1 a = (1, ci) → pObj X M H a ci) ∧ (∀ t n, M.1.2.1 a = (t, n) → 2 ≤ t → t ≤ 6 → pArr X M U H a t n) ∧ (∀ n, M.1.2.1 a = (8, n) → n < 2 ^ 31 ∧ va_X (pAd X a) n (fun j => iI (M.2.1 a j)) U H)
def pOkw (w : Cond) : Bool := goodWord w || (match w with
  | .fieldLinkNest .. => true
  | .methodLinkNest .. => true
  | _ => false)
def pTb (U : State) : Prop := (∀ w ∈ lw_tbl, pOkw w = true → w.before #[] U = true) ∧ va_AO RX0 U
def pKn (X : pX) (U : State) : Prop := ∀ (c : Nat) (q : vw_C), vwCl[c]? = some q → u_Kn U q.1 q.2.1 q.2.2 (X.2.2.2.1 c) (X.2.2.2.2 c)
def pXok (X : pX) : Prop := X.1 < X.2.2.1.size ∧ X.2.1 < X.2.2.1.size ∧ X.1 ≠ X.2.1
/-- the heap H holds the memory M -/
def pW (X : pX) (M : pM) (U : State) (H : Heap) : Prop :=
  pTb U ∧ pKn X U ∧ pXok X ∧ 2 ≤ M.1.1 ∧ H.size = pAd X M.1.1 ∧ (∀ q : Nat, q < X.2.2.1.size → H[q]? = X.2.2.1[q]?) ∧ ∀ a, pCell X M U H a
theorem pAd_inj {X : pX} (h : pXok X) {a b : Nat} (e : pAd X a = pAd X b) : a = b := by
  obtain ⟨h1, h2, h3⟩ := h
  match a, b with
  | 0, 0 => rfl
  | 0, 1 => exact absurd e h3
  | 0, k + 2 => simp only [pAd] at e; omega
  | 1, 0 => exact absurd e.symm h3
  | 1, 1 => rfl
  | 1, k + 2 => simp only [pAd] at e; omega
  | k + 2, 0 => simp only [pAd] at e; omega
  | k + 2, 1 => simp only [pAd] at e; omega
  | k + 2, j + 2 => simp only [pAd] at e; omega
theorem pAd_ge {X : pX} {a : Nat} (h : 2 ≤ a) : X.2.2.1.size ≤ pAd X a := by
  match a, h with
  | k + 2, _ => simp only [pAd]; omega
theorem pAd_succ {X : pX} {a : Nat} (h : 2 ≤ a) : pAd X (a + 1) = pAd X a + 1 := by
  match a, h with
  | k + 2, _ => simp only [pAd]; omega
theorem pTv_cat (X : pX) (v : Value) : (pTv X v).category = v.category := by cases v <;> rfl
theorem pTb.warm {u U : State} (hW : u.WarmedH U.vm) (h : pTb u) : pTb U := by
  refine ⟨fun w hw ho => ?_, va_AO.moved hW.alike h.2⟩
  have hb := h.1 w hw ho
  by_cases hg : goodWord w = true
  · exact word_at hW (good_of_word hg) hb
  · cases w <;> simp [pOkw, hg] at ho
    · exact va_Nw.warmM hW hb
    · exact va_Nw.warmF hW hb
theorem pTb.use {U : State} (h : pTb U) {w : Cond} (hw : w ∈ lw_tbl) (ho : pOkw w = true) (A : Array Value) : w.before A U = true := by
  have hb := h.1 w hw ho
  by_cases hg : goodWord w = true
  · exact word_at (State.WarmedH.refl U) (good_of_word hg) hb
  · cases w <;> simp [pOkw, hg] at ho
    · exact va_Nw.use rfl hb
    · exact va_Nw.use rfl hb
theorem pCell.moved {X : pX} {M : pM} {u U : State} {H : Heap} {a : Nat} (hvm : u.vm.Alike U.vm) (h : pCell X M u H a) : pCell X M U H a := by
  refine ⟨h.1, fun t n e h2 h6 => ?_, fun n e => ?_⟩
  · obtain ⟨hn, cA, k1, k2, k3⟩ := h.2.1 t n e h2 h6
    exact ⟨hn, cA, arrOfT_moved hvm k1, k2.moved hvm, k3⟩
  · obtain ⟨hn, scr, k1, k2, k3⟩ := h.2.2 n e
    exact ⟨hn, scr, k1, State.isArrayOf_alike hvm k2, k3⟩
theorem pW.warm {X : pX} {M : pM} {u U : State} {H : Heap} (hW : u.WarmedH U.vm) (h : pW X M u H) : pW X M U H :=
  ⟨h.1.warm hW, fun c q hq => u_Kn_moved hW.alike (h.2.1 c q hq), h.2.2.1, h.2.2.2.1, h.2.2.2.2.1, h.2.2.2.2.2.1, fun a => (h.2.2.2.2.2.2 a).moved hW.alike⟩
theorem pW.alike {X : pX} {M : pM} {u U : State} {H : Heap} (hT : pTb U) (hvm : u.vm.Alike U.vm) (h : pW X M u H) : pW X M U H :=
  ⟨hT, fun c q hq => u_Kn_moved hvm (h.2.1 c q hq), h.2.2.1, h.2.2.2.1, h.2.2.2.2.1, h.2.2.2.2.2.1, fun a => (h.2.2.2.2.2.2 a).moved hvm⟩
/-! locals -/
def pAl (X : pX) (ls : pL) : List (Nat × Value) := (ls.zipIdx).filterMap (fun q => q.1.map (fun v => (q.2, pTv X v)))
theorem pAl_mem {X : pX} {ls : pL} {i : Nat} {w : Value} : (i, w) ∈ pAl X ls ↔ ∃ v, ls[i]? = some (some v) ∧ w = pTv X v := by
  unfold pAl
  rw [List.mem_filterMap]
  constructor
  · rintro ⟨⟨o, j⟩, h1, h2⟩
    obtain ⟨v, h3, h4⟩ := Option.map_eq_some_iff.mp h2
    simp only at h3 h4
    subst h3
    cases h4
    have := List.mem_zipIdx_iff_getElem?.mp h1
    exact ⟨v, this, rfl⟩
  · rintro ⟨v, h1, rfl⟩
    exact ⟨(some v, i), List.mem_zipIdx_iff_getElem?.mpr h1, rfl⟩
def pLr (X : pX) (ls : pL) (arr : Array Slot) : Prop := lv_has arr ls.length (pAl X ls)
theorem pLr.get {X : pX} {ls : pL} {arr : Array Slot} (h : pLr X ls arr) {k : Nat} {v : Value} (hk : ls[k]? = some (some v)) : arr[k]? = some (.val (pTv X v)) := h.2.2 (k, pTv X v) (pAl_mem.mpr ⟨v, hk, rfl⟩)
theorem pNc_cat (v : Value) : pNc (some v) = true ↔ ¬ v.category = 2 := by cases v <;> simp [pNc, Value.category]
theorem pSt_len (ls : pL) (k : Nat) (v : Value) : (pSt ls k v).length = ls.length := by
  unfold pSt
  cases k with
  | zero => simp only; split <;> simp
  | succ k =>
    simp only
    cases ls[k]? with
    | none => simp only; split <;> simp
    | some x => simp only; split <;> split <;> simp
/-- what a stored local leaves -/
theorem pSt_get {ls : pL} {k i : Nat} {v u : Value} (hk : k + v.category ≤ ls.length) (h : (pSt ls k v)[i]? = some (some u)) :
    (i = k ∧ u = v) ∨ (i ≠ k ∧ ls[i]? = some (some u) ∧ ¬ (i + 1 = k ∧ u.category = 2) ∧ (v.category = 2 → i ≠ k + 1)) := by
  have hc1 : 1 ≤ v.category := by cases v <;> simp [Value.category]
  by_cases hi : i = k
  · subst hi
    left
    refine ⟨rfl, ?_⟩
    have hl : i < ls.length := by omega
    unfold pSt at h
    cases i with
    | zero => simp only at h; split at h <;> · simp [hl] at h; exact h.symm
    | succ i =>
      simp only at h
      cases hx : ls[i]? with
      | none => rw [hx] at h; simp only at h; split at h <;> · simp [hl] at h; exact h.symm
      | some x => rw [hx] at h; simp only at h; split at h <;> split at h <;> · simp [hl] at h; exact h.symm
  · right
    refine ⟨hi, ?_⟩
    have hi' : ¬ k = i := fun e => hi e.symm
    unfold pSt at h
    cases k with
    | zero =>
      simp only at h
      split at h
      · rename_i hc
        rw [List.getElem?_set_ne hi'] at h
        by_cases h1 : i = 1
        · subst h1
          rw [List.getElem?_set] at h
          simp at h
        · rw [List.getElem?_set_ne (by omega)] at h
          exact ⟨h, by omega, fun _ => by omega⟩
      · rename_i hc
        rw [List.getElem?_set_ne hi'] at h
        exact ⟨h, by omega, fun hc2 => absurd hc2 hc⟩
    | succ k =>
      simp only at h
      have key : ∀ l1 : pL, (if v.category = 2 then (l1.set (k + 1 + 1) none).set (k + 1) (some v) else l1.set (k + 1) (some v))[i]? = some (some u) → l1[i]? = some (some u) ∧ (v.category = 2 → i ≠ k + 1 + 1) := by
        intro l1 h
        split at h
        · rename_i hc
          rw [List.getElem?_set_ne hi'] at h
          by_cases h1 : i = k + 1 + 1
          · subst h1
            rw [List.getElem?_set] at h
            simp at h
          · rw [List.getElem?_set_ne (by omega)] at h
            exact ⟨h, fun _ => h1⟩
        · rename_i hc
          rw [List.getElem?_set_ne hi'] at h
          exact ⟨h, fun hc2 => absurd hc2 hc⟩
      cases hx : ls[k]? with
      | none =>
        rw [hx] at h
        obtain ⟨a, b⟩ := key _ h
        exact ⟨a, fun q => (by rw [show i = k by omega, hx] at a; cases a), b⟩
      | some x =>
        rw [hx] at h
        obtain ⟨a, b⟩ := key _ h
        simp only at a
        by_cases hn : pNc x = true
        · rw [if_pos hn] at a
          refine ⟨a, fun q => ?_, b⟩
          rw [show i = k by omega, hx] at a
          cases a
          exact (pNc_cat u).mp hn q.2
        · rw [if_neg hn] at a
          by_cases hk2 : k = i
          · subst hk2
            rw [List.getElem?_set] at a
            simp at a
          · rw [List.getElem?_set_ne hk2] at a
            exact ⟨a, fun q => hk2 (by omega), b⟩
theorem pLr.st1 {X : pX} {ls : pL} {arr : Array Slot} {k : Nat} {v : Value} (hk : k + v.category ≤ ls.length) (hc : v.category = 1)
    (h : lv_has arr ls.length ((k, pTv X v) :: (pAl X ls).filter (fun q => !(q.1 == k) && !(q.1 + 1 == k && q.2.category == 2)))) : pLr X (pSt ls k v) arr := by
  unfold pLr
  rw [pSt_len]
  refine ⟨h.1, h.2.1, fun q hq => h.2.2 q ?_⟩
  obtain ⟨i, w⟩ := q
  obtain ⟨u, h1, rfl⟩ := pAl_mem.mp hq
  rcases pSt_get hk h1 with ⟨rfl, rfl⟩ | ⟨h2, h3, h4, -⟩
  · exact List.mem_cons_self
  · refine List.mem_cons_of_mem _ (List.mem_filter.mpr ⟨pAl_mem.mpr ⟨u, h3, rfl⟩, ?_⟩)
    simp only [pTv_cat, Bool.and_eq_true, Bool.not_eq_true', beq_eq_false_iff_ne, Bool.and_eq_false_iff]
    refine ⟨h2, ?_⟩
    by_cases e : i + 1 = k
    · exact Or.inr (fun q => h4 ⟨e, q⟩)
    · exact Or.inl e
theorem pLr.st2 {X : pX} {ls : pL} {arr : Array Slot} {k : Nat} {v : Value} (hk : k + v.category ≤ ls.length) (hc : v.category = 2)
    (h : lv_has arr ls.length ((k, pTv X v) :: (pAl X ls).filter (fun q => !(q.1 == k) && (!(q.1 == k + 1) && !(q.1 + 1 == k && q.2.category == 2))))) : pLr X (pSt ls k v) arr := by
  unfold pLr
  rw [pSt_len]
  refine ⟨h.1, h.2.1, fun q hq => h.2.2 q ?_⟩
  obtain ⟨i, w⟩ := q
  obtain ⟨u, h1, rfl⟩ := pAl_mem.mp hq
  rcases pSt_get hk h1 with ⟨rfl, rfl⟩ | ⟨h2, h3, h4, h5⟩
  · exact List.mem_cons_self
  · refine List.mem_cons_of_mem _ (List.mem_filter.mpr ⟨pAl_mem.mpr ⟨u, h3, rfl⟩, ?_⟩)
    simp only [pTv_cat, Bool.and_eq_true, Bool.not_eq_true', beq_eq_false_iff_ne, Bool.and_eq_false_iff]
    refine ⟨h2, h5 hc, ?_⟩
    by_cases e : i + 1 = k
    · exact Or.inr (fun q => h4 ⟨e, q⟩)
    · exact Or.inl e
