/-! how objects are made: an object at cell a, its arrays behind it -/
def ndS (a : Nat) (M : pM) (x : Nat × Nat × Nat) : pM := pR (pNew M x.1 x.2.1) a x.2.2 (some M.1.1)
def nd (a : Nat) : pM → List (Nat × Nat × Nat) → pM
  | M, [] => M
  | M, x :: l => nd a (ndS a M x) l
def ndr : Nat → (Nat → Option Nat) → List (Nat × Nat × Nat) → Nat → Option Nat
  | _, f, [] => f
  | n, f, x :: l => ndr (n + 1) (va_up f x.2.2 (some n)) l
theorem pZ_at {α : Type} {f : Nat → Nat → α} {a : Nat} {v : α} : pZ f a v a = fun _ => v := if_pos rfl
theorem pZ_ne {α : Type} {f : Nat → Nat → α} {a b : Nat} {v : α} (h : b ≠ a) : pZ f a v b = f b := if_neg h
theorem pU_at {α : Type} {f : Nat → Nat → α} {a k : Nat} {v : α} : pU f a k v a = va_up (f a) k v := if_pos rfl
theorem pU_ne {α : Type} {f : Nat → Nat → α} {a b k : Nat} {v : α} (h : b ≠ a) : pU f a k v b = f b := if_neg h
theorem ndS_n {a : Nat} {M : pM} {x : Nat × Nat × Nat} : (ndS a M x).1.1 = M.1.1 + 1 := rfl
theorem ndS_k {a c : Nat} {M : pM} {x : Nat × Nat × Nat} (h : c ≠ M.1.1) : (ndS a M x).1.2.1 c = M.1.2.1 c := up_ne h
theorem ndS_ka {a : Nat} {M : pM} {x : Nat × Nat × Nat} : (ndS a M x).1.2.1 M.1.1 = (x.1, x.2.1) := up_at
theorem ndS_i {a c : Nat} {M : pM} {x : Nat × Nat × Nat} (h : c ≠ M.1.1) : (ndS a M x).2.1 c = M.2.1 c ∧ (ndS a M x).2.2 c = M.2.2 c := ⟨pZ_ne h, pZ_ne h⟩
theorem ndS_ia {a : Nat} {M : pM} {x : Nat × Nat × Nat} : (ndS a M x).2.1 M.1.1 = (fun _ => 0) ∧ (ndS a M x).2.2 M.1.1 = (fun _ => 0) := ⟨pZ_at, pZ_at⟩
theorem ndS_r {a c : Nat} {M : pM} {x : Nat × Nat × Nat} (h : c ≠ M.1.1) (h2 : c ≠ a) : (ndS a M x).1.2.2 c = M.1.2.2 c := (pU_ne h2).trans (pZ_ne h)
theorem ndS_ra {a : Nat} {M : pM} {x : Nat × Nat × Nat} (h : a ≠ M.1.1) : (ndS a M x).1.2.2 M.1.1 = fun _ => none := (pU_ne (fun e => h e.symm)).trans pZ_at
theorem ndS_rr {a : Nat} {M : pM} {x : Nat × Nat × Nat} (h : a ≠ M.1.1) : (ndS a M x).1.2.2 a = va_up (M.1.2.2 a) x.2.2 (some M.1.1) := by
  show pU (pZ M.1.2.2 M.1.1 none) a x.2.2 (some M.1.1) a = _
  rw [pU_at, pZ_ne h]
theorem nd_spec {a : Nat} : ∀ (l : List (Nat × Nat × Nat)) (M : pM), a < M.1.1 →
    (nd a M l).1.1 = M.1.1 + l.length ∧ (∀ c, c < M.1.1 → (nd a M l).1.2.1 c = M.1.2.1 c) ∧ (∀ c, c < M.1.1 → c ≠ a → (nd a M l).1.2.2 c = M.1.2.2 c) ∧ (∀ c, c < M.1.1 → (nd a M l).2.1 c = M.2.1 c ∧ (nd a M l).2.2 c = M.2.2 c) ∧ (nd a M l).1.2.2 a = ndr M.1.1 (M.1.2.2 a) l ∧
    ∀ i x, l[i]? = some x → (nd a M l).1.2.1 (M.1.1 + i) = (x.1, x.2.1) ∧ (nd a M l).1.2.2 (M.1.1 + i) = (fun _ => none) ∧ (nd a M l).2.1 (M.1.1 + i) = (fun _ => 0) ∧ (nd a M l).2.2 (M.1.1 + i) = (fun _ => 0) := by
  intro l
  induction l with
  | nil => intro M h; exact ⟨rfl, fun _ _ => rfl, fun _ _ _ => rfl, fun _ _ => ⟨rfl, rfl⟩, rfl, fun i x hx => by simp at hx⟩
  | cons y l ih =>
    intro M h
    have hn : (ndS a M y).1.1 = M.1.1 + 1 := ndS_n
    obtain ⟨h1, h2, h3, h4, h5, h6⟩ := ih (ndS a M y) (by rw [hn]; omega)
    rw [hn] at h1 h2 h3 h4 h5 h6
    show (nd a (ndS a M y) l).1.1 = _ ∧ (∀ c, c < M.1.1 → (nd a (ndS a M y) l).1.2.1 c = M.1.2.1 c) ∧ (∀ c, c < M.1.1 → c ≠ a → (nd a (ndS a M y) l).1.2.2 c = M.1.2.2 c) ∧ (∀ c, c < M.1.1 → (nd a (ndS a M y) l).2.1 c = M.2.1 c ∧ (nd a (ndS a M y) l).2.2 c = M.2.2 c) ∧ (nd a (ndS a M y) l).1.2.2 a = ndr (M.1.1 + 1) (va_up (M.1.2.2 a) y.2.2 (some M.1.1)) l ∧
      ∀ i x, (y :: l)[i]? = some x → (nd a (ndS a M y) l).1.2.1 (M.1.1 + i) = (x.1, x.2.1) ∧ (nd a (ndS a M y) l).1.2.2 (M.1.1 + i) = (fun _ => none) ∧ (nd a (ndS a M y) l).2.1 (M.1.1 + i) = (fun _ => 0) ∧ (nd a (ndS a M y) l).2.2 (M.1.1 + i) = (fun _ => 0)
    refine ⟨by rw [h1, List.length_cons]; omega, fun c hc => by rw [h2 c (by omega), ndS_k (by omega)], fun c hc ha => by rw [h3 c (by omega) ha, ndS_r (by omega) ha], fun c hc => by rw [(h4 c (by omega)).1, (h4 c (by omega)).2]; exact ndS_i (by omega), by rw [h5, ndS_rr (by omega)], fun i x hx => ?_⟩
    match i, hx with
    | 0, hx =>
      have e : y = x := by simpa using hx
      subst e
      rw [Nat.add_zero, h2 _ (by omega), h3 _ (by omega) (by omega), (h4 _ (by omega)).1, (h4 _ (by omega)).2]
      exact ⟨ndS_ka, ndS_ra (by omega), ndS_ia⟩
    | i + 1, hx =>
      have e : l[i]? = some x := by simpa using hx
      have h9 := h6 i x e
      rw [show M.1.1 + 1 + i = M.1.1 + (i + 1) by omega] at h9
      exact h9
section RND
variable {C : pCt} {Q : pQ} {y : MethodName} {cc : ByteArray} {rt : Option FieldType} {kc ks pc pc1 pc2 : Nat} {ls : pL} {st : List Value} {M : pM}
theorem r_nap {ty : ArrayType} {t n idx ci k a : Nat} {j : Int} (h : decode cc pc = .ok (.newarray ty, 2)) (hp : pc + 2 = pc1) (ht : (ty = .int ∧ t = 2) ∨ (ty = .long ∧ t = 3) ∨ (ty = .byte ∧ t = 4) ∨ (ty = .boolean ∧ t = 5)) (hj : j = (n : Int)) (hn : n ≤ 1000000) (h2 : decode cc pc1 = .ok (.putfield idx, 3)) (hp2 : pc1 + 3 = pc2) (hf : pFld y.cls idx ci k 2) (hw : pWr y ci k) (hk : M.1.2.1 a = (1, ci)) (ha : 2 ≤ a) (hl : a < M.1.1)
    (g : ∀ M1, M1 = ndS a M (t, n, k) → M1.1.2.1 a = (1, ci) → a < M1.1.1 → Go C Q y cc rt kc ks pc2 ls st M1) : Go C Q y cc rt (kc + 1) (ks + n) pc ls (.int (iI j) :: .ref a :: st) M := by
  subst hp; subst hp2; subst hj
  refine go_newa h ht rfl hn (go_putR h2 hf hw ?_ ha ?_)
  · exact (up_ne (by omega)).trans hk
  · exact g (ndS a M (t, n, k)) rfl ((ndS_k (by omega)).trans hk) (by rw [ndS_n]; omega)
theorem r_anp {n idx ix2 ci k a : Nat} {j : Int} (h : decode cc pc = .ok (.anewarray ix2, 3)) (hp : pc + 3 = pc1) (hc : Cond.classLink y.cls ix2 RX0 ∈ lw_tbl) (hj : j = (n : Int)) (hn : n ≤ 1000000) (h2 : decode cc pc1 = .ok (.putfield idx, 3)) (hp2 : pc1 + 3 = pc2) (hf : pFld y.cls idx ci k 2) (hw : pWr y ci k) (hk : M.1.2.1 a = (1, ci)) (ha : 2 ≤ a) (hl : a < M.1.1)
    (g : ∀ M1, M1 = ndS a M (6, n, k) → M1.1.2.1 a = (1, ci) → a < M1.1.1 → Go C Q y cc rt kc ks pc2 ls st M1) : Go C Q y cc rt (kc + 1) (ks + n) pc ls (.int (iI j) :: .ref a :: st) M := by
  subst hp; subst hp2; subst hj
  refine go_anew h hc rfl hn (go_putR h2 hf hw ?_ ha ?_)
  · exact (up_ne (by omega)).trans hk
  · exact g (ndS a M (6, n, k)) rfl ((ndS_k (by omega)).trans hk) (by rw [ndS_n]; omega)
/-- new C; dup; C.<init>() -/
theorem r_nw0 {idx idx2 ci N kc2 ks2 pc3 : Nat} {z : MethodName} {Q2 : pQ} (h : decode cc pc = .ok (.new idx, 3)) (hp : pc + 3 = pc1) (hc : pCls y.cls idx ci N) (h2 : decode cc pc1 = .ok (.dup, 1)) (hp2 : pc1 + 1 = pc2) (h3 : decode cc pc2 = .ok (.invokespecial idx2, 3)) (hp3 : pc2 + 3 = pc3) (hs : pSp y.cls idx2 0 z) (hst : pCat st ≤ 7) (hC : C kc2 ks2 z [.ref M.1.1] (pNew M 1 ci) Q2)
    (g : ∀ (r : Option Value) (M2 : pM), Q2 r M2 → Go C Q y cc rt kc ks pc3 ls (r.toList ++ .ref M.1.1 :: st) M2) : Go C Q y cc rt (kc + kc2 + 1) (ks + ks2 + N) pc ls st M := by
  subst hp; subst hp2; subst hp3
  refine go_new h hc (r_dup h2 rfl rfl ?_)
  exact go_invI (as := []) h3 hs rfl (by show 1 + pCat st ≤ 8; omega) hC g
/-- new C; dup; the arguments lie on the stack; C.<init>(..) -/
theorem r_nwn {idx ci N : Nat} (h : decode cc pc = .ok (.new idx, 3)) (hp : pc + 3 = pc1) (hc : pCls y.cls idx ci N) (h2 : decode cc pc1 = .ok (.dup, 1)) (hp2 : pc1 + 1 = pc2) (g : Go C Q y cc rt kc ks pc2 ls (.ref M.1.1 :: .ref M.1.1 :: st) (pNew M 1 ci)) : Go C Q y cc rt (kc + 1) (ks + N) pc ls st M := by
  subst hp; subst hp2
  exact go_new h hc (r_dup h2 rfl rfl g)
end RND
/-- which place of a board a cell is -/
def bO (c : Nat) : Nat := if 19 ≤ c ∧ c ≤ 28 then c - 19 else if 42 ≤ c ∧ c < 252 then (c - 42) % 10 else if 277 ≤ c ∧ c < 317 then (c - 277) % 10 else 10
/-- the ints that the constructors leave -/
def z0 (c j : Nat) : Int := if bO c = 4 ∧ j < 156 then -1 else if bO c = 6 ∧ j < 13 then -1 else if bO c = 7 ∧ j < 4 then 3 * (j : Int) + 1 else if bO c = 8 ∧ j < 4 then (j : Int) else if (c = 263 ∧ j = 0) ∨ (c = 270 ∧ j = 8) ∨ (c = 331 ∧ j < 13) then -1 else if c = 332 ∧ j < 4 then 3 * (j : Int) + 1 else if c = 333 ∧ j < 4 then (j : Int) else 0
def z0n (c : Nat) : Bool := decide (¬ bO c = 4 ∧ ¬ bO c = 6 ∧ ¬ bO c = 7 ∧ ¬ bO c = 8 ∧ ¬ c = 263 ∧ ¬ c = 270 ∧ ¬ c = 331 ∧ ¬ c = 332 ∧ ¬ c = 333)
theorem z0_0 {c j : Nat} (h : z0n c = true) : z0 c j = 0 := by
  obtain ⟨h1, h2, h3, h4, h5, h6, h7, h8, h9⟩ := of_decide_eq_true h
  unfold z0
  rw [if_neg (fun q => h1 q.1), if_neg (fun q => h2 q.1), if_neg (fun q => h3 q.1), if_neg (fun q => h4 q.1), if_neg (by omega), if_neg (fun q => h8 q.1), if_neg (fun q => h9 q.1)]
def rZ : List Nat := [2, 3, 9, 29, 40, 41, 252, 254, 256, 264, 266, 270, 317, 19, 42, 52, 62, 72, 82, 92, 102, 112, 122, 132, 142, 152, 162, 172, 182, 192, 202, 212, 222, 232, 242, 277, 287, 297, 307]
theorem r0_none {c j : Nat} (h : c ∉ rZ) : r0 c j = none := by
  unfold r0
  split <;> first | exact absurd (by decide) h | skip
  rw [if_neg]
  intro q
  refine h ?_
  have := q.1
  unfold rZ
  simp only [List.mem_cons, List.not_mem_nil, or_false] at this ⊢
  omega
/-- the object at a is made, and all behind it up to n2; RA, ZA: its own references and ints -/
def GWa (M M2 : pM) (a n2 : Nat) (RA : Nat → Option Nat) (ZA : Nat → Int) : Prop :=
  (M.1.1 = a + 1 ∧ M2.1.1 = n2 ∧ a < n2) ∧ (∀ c, c ≤ a → M2.1.2.1 c = M.1.2.1 c) ∧ (∀ c, c < a → M2.1.2.2 c = M.1.2.2 c ∧ M2.2.1 c = M.2.1 c ∧ M2.2.2 c = M.2.2 c) ∧
  (∀ c, a < c → c < n2 → M2.1.2.1 c = k0 c ∧ (∀ j, M2.1.2.2 c j = r0 c j) ∧ ∀ j, M2.2.1 c j = z0 c j) ∧ (∀ c, a ≤ c → c < n2 → c ≠ 4 → c ≠ 322 → bO c ≠ 4 → bO c ≠ 6 → ∀ j, M2.2.2 c j = 0) ∧ (∀ j, M2.1.2.2 a j = RA j) ∧ ∀ j, M2.2.1 a j = ZA j
def GW (M M2 : pM) (a n2 : Nat) : Prop := GWa M M2 a n2 (r0 a) (z0 a)
/-- a new object, with nothing in it -/
def FR (M : pM) (a ci : Nat) : Prop := M.1.1 = a + 1 ∧ M.1.2.1 a = (1, ci) ∧ M.1.2.2 a = (fun _ => none) ∧ M.2.1 a = (fun _ => 0) ∧ M.2.2 a = (fun _ => 0)
theorem FR.new {M : pM} {ci : Nat} : FR (pNew M 1 ci) M.1.1 ci := ⟨rfl, up_at, pZ_at, pZ_at, pZ_at⟩
theorem nd_at {a i : Nat} {l : List (Nat × Nat × Nat)} (hk : l.map (fun x => (x.1, x.2.1)) = (List.range l.length).map (fun i => k0 (a + 1 + i))) (hi : i < l.length) : ∃ x, l[i]? = some x ∧ k0 (a + 1 + i) = (x.1, x.2.1) := by
  obtain ⟨x, hx⟩ : ∃ x, l[i]? = some x := ⟨l[i], List.getElem?_eq_getElem hi⟩
  have q1 : (l.map (fun x => (x.1, x.2.1)))[i]? = some (x.1, x.2.1) := by rw [List.getElem?_map, hx]; rfl
  rw [hk, List.getElem?_map, List.getElem?_range hi] at q1
  exact ⟨x, hx, Option.some.inj q1⟩
theorem GWa.nd {M M2 : pM} {a ci : Nat} {l : List (Nat × Nat × Nat)} (f : FR M a ci) (e : M2 = nd a M l) (hk : l.map (fun x => (x.1, x.2.1)) = (List.range l.length).map (fun i => k0 (a + 1 + i))) (hr : (List.range l.length).all (fun i => decide (a + 1 + i ∉ rZ) && z0n (a + 1 + i)) = true) : GWa M M2 a (a + 1 + l.length) (ndr (a + 1) (fun _ => none) l) (fun _ => 0) := by
  obtain ⟨f1, f2, f3, f4, f5⟩ := f
  obtain ⟨h1, h2, h3, h4, h5, h6⟩ := nd_spec (a := a) l M (by omega)
  rw [← e] at h1 h2 h3 h4 h5 h6
  rw [f1] at h1 h2 h3 h4 h5 h6
  have hn : ∀ c, a < c → c < a + 1 + l.length → ∃ i x, c = a + 1 + i ∧ l[i]? = some x ∧ k0 c = (x.1, x.2.1) ∧ c ∉ rZ ∧ z0n c = true := fun c h7 h8 => by
    have hi : c - (a + 1) < l.length := by omega
    obtain ⟨x, hx⟩ : ∃ x, l[c - (a + 1)]? = some x := ⟨l[c - (a + 1)], List.getElem?_eq_getElem hi⟩
    have e1 : a + 1 + (c - (a + 1)) = c := by omega
    have q1 : (l.map (fun x => (x.1, x.2.1)))[c - (a + 1)]? = some (x.1, x.2.1) := by rw [List.getElem?_map, hx]; rfl
    rw [hk, List.getElem?_map, List.getElem?_range hi] at q1
    have q2 : k0 (a + 1 + (c - (a + 1))) = (x.1, x.2.1) := Option.some.inj q1
    have q3 := List.all_eq_true.mp hr (c - (a + 1)) (List.mem_range.mpr hi)
    rw [e1] at q2 q3
    have q4 := (Bool.and_eq_true_iff.mp q3)
    exact ⟨c - (a + 1), x, e1.symm, hx, q2, of_decide_eq_true q4.1, q4.2⟩
  refine ⟨⟨f1, h1, by omega⟩, fun c hc => h2 c (by omega), fun c hc => ⟨h3 c (by omega) (by omega), h4 c (by omega)⟩, fun c h7 h8 => ?_, fun c h7 h8 _ _ _ _ j => ?_, fun j => by rw [h5, f3], fun j => by rw [(h4 a (by omega)).1, f4]⟩
  · obtain ⟨i, x, e1, hx, q1, q2, q3⟩ := hn c h7 h8
    obtain ⟨g1, g2, g3, g4⟩ := h6 i x hx
    rw [← e1] at g1 g2 g3
    exact ⟨g1.trans q1.symm, fun j => by rw [g2, r0_none q2], fun j => by rw [g3, z0_0 q3]⟩
  · by_cases u : c = a
    · rw [u, (h4 a (by omega)).2, f5]
    · obtain ⟨i, x, e1, hx, -⟩ := hn c (by omega) h8
      obtain ⟨-, -, -, g4⟩ := h6 i x hx
      rw [← e1] at g4
      rw [g4]
theorem GWa.R {M M2 : pM} {a n2 k : Nat} {b : Option Nat} {RA : Nat → Option Nat} {ZA : Nat → Int} (h : GWa M M2 a n2 RA ZA) : GWa M (pR M2 a k b) a n2 (va_up RA k b) ZA := by
  obtain ⟨h1, h2, h3, h4, h5, h6, h7⟩ := h
  refine ⟨h1, h2, fun c hc => ⟨(pU_ne (by omega)).trans (h3 c hc).1, (h3 c hc).2⟩, fun c q1 q2 => ⟨(h4 c q1 q2).1, fun j => ?_, (h4 c q1 q2).2.2⟩, h5, fun j => ?_, h7⟩
  · show pU M2.1.2.2 a k b c j = _
    rw [pU_ne (by omega)]; exact (h4 c q1 q2).2.1 j
  · show pU M2.1.2.2 a k b a j = _
    rw [pU_at]
    by_cases u : j = k
    · rw [u, up_at, up_at]
    · rw [up_ne u, up_ne u]; exact h6 j
theorem GWa.I {M M2 : pM} {a n2 k : Nat} {z : Int} {RA : Nat → Option Nat} {ZA : Nat → Int} (h : GWa M M2 a n2 RA ZA) : GWa M (pI M2 a k z) a n2 RA (va_up ZA k z) := by
  obtain ⟨h1, h2, h3, h4, h5, h6, h7⟩ := h
  refine ⟨h1, h2, fun c hc => ⟨(h3 c hc).1, (pI_ne (by omega)).trans (h3 c hc).2.1, (h3 c hc).2.2⟩, fun c q1 q2 => ⟨(h4 c q1 q2).1, (h4 c q1 q2).2.1, fun j => ?_⟩, h5, h6, fun j => ?_⟩
  · rw [pI_ne (by omega)]; exact (h4 c q1 q2).2.2 j
  · by_cases u : j = k
    · rw [u, pI_at, up_at]
    · rw [pI_nk u, up_ne u]; exact h7 j
theorem GWa.eq {M M2 : pM} {a n2 n3 : Nat} {RA : Nat → Option Nat} {ZA : Nat → Int} (h : GWa M M2 a n2 RA ZA) (hn : n2 = n3) (h1 : ∀ j, RA j = r0 a j) (h2 : ∀ j, ZA j = z0 a j) : GW M M2 a n3 := by
  subst hn
  obtain ⟨g1, g2, g3, g4, g5, g6, g7⟩ := h
  exact ⟨g1, g2, g3, g4, g5, fun j => (g6 j).trans (h1 j), fun j => (g7 j).trans (h2 j)⟩
