/-! memory: what stays -/
def fr (l : List Nat) (M M2 : pM) : Prop := M2.1 = M.1 ∧ ∀ a, a ∉ l → M2.2.1 a = M.2.1 a ∧ M2.2.2 a = M.2.2 a
theorem fr.rf {l : List Nat} {M : pM} : fr l M M := ⟨rfl, fun _ _ => ⟨rfl, rfl⟩⟩
theorem fr.tr {l : List Nat} {M M1 M2 : pM} (h : fr l M M1) (h2 : fr l M1 M2) : fr l M M2 := ⟨h2.1.trans h.1, fun a ha => ⟨(h2.2 a ha).1.trans (h.2 a ha).1, (h2.2 a ha).2.trans (h.2 a ha).2⟩⟩
theorem fr.mono {l l2 : List Nat} {M M2 : pM} (h : fr l M M2) (hl : ∀ a ∈ l, a ∈ l2) : fr l2 M M2 := ⟨h.1, fun a ha => h.2 a (fun q => ha (hl a q))⟩
theorem fr.I {l : List Nat} {M M1 : pM} (h : fr l M M1) {a k : Nat} {z : Int} (ha : a ∈ l) : fr l M (pI M1 a k z) := ⟨h.1, fun b hb => ⟨by
  show pU M1.2.1 a k z b = _
  rw [pU, if_neg (fun e => hb (by rw [e]; exact ha))]; exact (h.2 b hb).1, (h.2 b hb).2⟩⟩
theorem fr.J {l : List Nat} {M M1 : pM} (h : fr l M M1) {a k : Nat} {z : Int64} (ha : a ∈ l) : fr l M (pJ M1 a k z) := ⟨h.1, fun b hb => ⟨(h.2 b hb).1, by
  show pU M1.2.2 a k z b = _
  rw [pU, if_neg (fun e => hb (by rw [e]; exact ha))]; exact (h.2 b hb).2⟩⟩
theorem fr.ok {l : List Nat} {M M2 : pM} (h : fr l M M2) (hS : sOk M.1) : sOk M2.1 := by rw [h.1]; exact hS
theorem fr.i {l : List Nat} {M M2 : pM} (h : fr l M M2) {a : Nat} (ha : a ∉ l) : M2.2.1 a = M.2.1 a := (h.2 a ha).1
theorem fr.j {l : List Nat} {M M2 : pM} (h : fr l M M2) {a : Nat} (ha : a ∉ l) : M2.2.2 a = M.2.2 a := (h.2 a ha).2
theorem pI_eq {M : pM} {a k : Nat} {z : Int} : (pI M a k z).2.1 a = va_up (M.2.1 a) k z := by show pU M.2.1 a k z a = _; rw [pU, if_pos rfl]
theorem pI_ne {M : pM} {a k b : Nat} {z : Int} (h : b ≠ a) : (pI M a k z).2.1 b = M.2.1 b := by show pU M.2.1 a k z b = _; rw [pU, if_neg h]
theorem pI_at {M : pM} {a k : Nat} {z : Int} : (pI M a k z).2.1 a k = z := by rw [pI_eq]; simp [va_up]
theorem pI_nk {M : pM} {a k j : Nat} {z : Int} (h : j ≠ k) : (pI M a k z).2.1 a j = M.2.1 a j := by rw [pI_eq]; simp [va_up, h]
theorem pI_j {M : pM} {a k : Nat} {z : Int} : (pI M a k z).2.2 = M.2.2 := rfl
theorem pI_s {M : pM} {a k : Nat} {z : Int} : (pI M a k z).1 = M.1 := rfl
theorem pJ_eq {M : pM} {a k : Nat} {z : Int64} : (pJ M a k z).2.2 a = va_up (M.2.2 a) k z := by show pU M.2.2 a k z a = _; rw [pU, if_pos rfl]
theorem pJ_ne {M : pM} {a k b : Nat} {z : Int64} (h : b ≠ a) : (pJ M a k z).2.2 b = M.2.2 b := by show pU M.2.2 a k z b = _; rw [pU, if_neg h]
theorem pJ_at {M : pM} {a k : Nat} {z : Int64} : (pJ M a k z).2.2 a k = z := by rw [pJ_eq]; simp [va_up]
theorem pJ_nk {M : pM} {a k j : Nat} {z : Int64} (h : j ≠ k) : (pJ M a k z).2.2 a j = M.2.2 a j := by rw [pJ_eq]; simp [va_up, h]
theorem pJ_i {M : pM} {a k : Nat} {z : Int64} : (pJ M a k z).2.1 = M.2.1 := rfl
theorem pJ_s {M : pM} {a k : Nat} {z : Int64} : (pJ M a k z).1 = M.1 := rfl
theorem up_at {α : Type} {f : Nat → α} {k : Nat} {v : α} : va_up f k v k = v := by simp [va_up]
theorem up_ne {α : Type} {f : Nat → α} {k j : Nat} {v : α} (h : j ≠ k) : va_up f k v j = f j := by simp [va_up, h]
theorem up_up {α : Type} {f : Nat → α} {k : Nat} {v w : α} : va_up (va_up f k v) k w = va_up f k w := by funext j; simp only [va_up]; split <;> rfl
theorem up_self {α : Type} {f : Nat → α} {k : Nat} : va_up f k (f k) = f := by funext j; simp only [va_up]; split <;> simp_all
theorem up_id {α : Type} {f : Nat → α} {k : Nat} {v : α} (h : f k = v) : va_up f k v = f := by rw [← h]; exact up_self
