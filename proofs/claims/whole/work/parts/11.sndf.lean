theorem pNo_get : ∀ (n i : Nat) (v : Value), (pNo n)[i]? = some (some v) → False
  | 0, i, v, h => by simp [pNo] at h
  | n + 1, 0, v, h => by simp [pNo] at h
  | n + 1, i + 1, v, h => by
    simp only [pNo, List.getElem?_cons_succ] at h
    exact pNo_get n i v h
theorem pNo_len : ∀ n : Nat, (pNo n).length = n
  | 0 => rfl
  | n + 1 => by simp [pNo, pNo_len n]
theorem pEnt_get (X : pX) (n : Nat) : ∀ (as : List Value) (k i : Nat) (v : Value), (pSls as ++ pNo n)[i]? = some (some v) → (k + i, pTv X v) ∈ lv_args k (as.map (pTv X))
  | [], k, i, v, h => by
    simp only [pSls, List.nil_append] at h
    exact (pNo_get n i v h).elim
  | u :: as, k, i, v, h => by
    simp only [pSls, List.append_assoc, List.map_cons, lv_args, pTv_cat] at h ⊢
    by_cases hc : u.category = 2
    · have e : pSl u = [some u, none] := by cases u <;> simp_all [pSl, Value.category]
      rw [e] at h
      rw [if_pos hc]
      match i, h with
      | 0, h => simp at h; subst h; exact List.mem_cons_self
      | 1, h => simp at h
      | j + 2, h =>
        have h2 : (pSls as ++ pNo n)[j]? = some (some v) := by simpa using h
        have := pEnt_get X n as (k + 2) j v h2
        rw [show k + (j + 2) = k + 2 + j by omega]
        exact List.mem_cons_of_mem _ this
    · have e : pSl u = [some u] := by cases u <;> simp_all [pSl, Value.category]
      rw [e] at h
      rw [if_neg hc]
      match i, h with
      | 0, h => simp at h; subst h; exact List.mem_cons_self
      | j + 1, h =>
        have h2 : (pSls as ++ pNo n)[j]? = some (some v) := by simpa using h
        have := pEnt_get X n as (k + 1) j v h2
        rw [show k + (j + 1) = k + 1 + j by omega]
        exact List.mem_cons_of_mem _ this
theorem pSls_len (X : pX) : ∀ as : List Value, (lg_sl (as.map (pTv X))).length = (pSls as).length
  | [] => rfl
  | u :: as => by
    have ih := pSls_len X as
    simp only [lg_sl, List.map_cons, List.flatMap_cons, List.length_append, pSls] at ih ⊢
    rw [ih]
    congr 1
    cases u <;> rfl
theorem pEnt_len {as : List Value} {n : Nat} (h : (pSls as).length ≤ n) : (pEnt as n).length = n := by
  unfold pEnt
  rw [List.length_append, pNo_len]
  omega
theorem pEnt_lr (X : pX) {as : List Value} {n : Nat} {arr : Array Slot} (h : (pSls as).length ≤ n) (hl : lv_has arr n (lv_args 0 (as.map (pTv X)))) : pLr X (pEnt as n) arr := by
  unfold pLr
  rw [pEnt_len h]
  refine ⟨hl.1, hl.2.1, fun q hq => hl.2.2 q ?_⟩
  obtain ⟨i, w⟩ := q
  obtain ⟨v, h1, rfl⟩ := pAl_mem.mp hq
  have := pEnt_get X _ as 0 i v h1
  rw [Nat.zero_add] at this
  exact this
/-- THE MACHINE FOLLOWS -/
theorem sn_met : ∀ (d kc ks : Nat) (z : MethodName) (as : List Value) (M : pM) (Q : pQ), Ct d kc ks z as M Q → pMt d kc ks z as M Q := by
  intro d
  induction d with
  | zero => intro kc ks z as M Q h; exact h.elim
  | succ d ih =>
    intro kc ks z as M Q h
    obtain ⟨cc, mL, rt, hcode, hpl, hmL, hlen, hini, hgo⟩ := h
    refine ⟨cc, mL, rt, hcode, hmL, hini, fun l X => ?_⟩
    refine va_MetF (cc := cc) (maxL := mL) (ret := rt) hpl rfl ?_
    intro p e s m args below meth c s₁ B hml hv
    obtain ⟨rfl, hW⟩ := hv
    have E : pE p (pRm (d + 1) kc ks) s m meth c d kc ks z cc := ⟨B.exec, B.bytes, findClass_of_methodNamed B.named, fun hi => (name_of_methodNamed B.named B.method).1.trans hi, Nat.le_refl _, Nat.le_refl _, by show d + 2 ≤ d + 1 + 1; omega, by show 60 * d + 160 ≤ 60 * (d + 1) + 100; omega⟩
    have hr := B.returns
    have hlocks := B.notSynchronized
    have hE : pEnd p l e (pRm (d + 1) kc ks) s m (as.map (pTv X)).toArray below meth c (MQ below (pQc X Q) (as.map (pTv X)).toArray s kc ks (fun q => X.2.2.1.size ≤ q)) X kc ks Q cc rt := by
      intro r M2 H arr locs cells slots pc hq hw hl hc hs hrt
      refine W.widen (k := kc) (n := ks) hc hs ?_
      have hQ : ∀ t : State, t.heap = H → s.WarmedH t.vm → pQc X Q (as.map (pTv X)).toArray s (.returned (r.map (pTv X))) t := fun t ht hwm => ⟨r, M2, rfl, hq, by rw [ht]; exact hw.warm hwm⟩
      rcases hrt with ⟨x, rfl, hd, hrt | ⟨hrt, hx⟩⟩ | ⟨x, rfl, hd, hrt⟩ | ⟨a, nm, rfl, hd, hrt⟩ | ⟨rfl, hd, hrt⟩
      · exact W.iret B.exec B.bytes (by rw [hr, hrt]) hQ hl hd
      · exact W.zret (ty := .boolean) B.exec B.bytes (by rw [hr, hrt]) (by rcases hx with rfl | rfl <;> rfl) hQ hl hd
      · exact W.lret B.exec B.bytes (by rw [hr, hrt]) hQ hl hd
      · exact W.aret (rt := .object nm) B.exec B.bytes (by rw [hr, hrt]) (Or.inl ⟨nm, rfl⟩) (Or.inr ⟨_, rfl⟩) hQ hl hd
      · exact W.vret B.exec B.bytes (by rw [hr, hrt]) hQ hl hd
    have hG := hgo _ (sn_all (l := l) (e := e) (args := (as.map (pTv X)).toArray) (below := below) E ih hE)
    have hle : (lg_sl (as.map (pTv X))).length ≤ mL := by rw [pSls_len]; exact hlen
    have hl := lv_entry (as.map (pTv X)) (n := mL) hle
    show W p l e (pRm (d + 1) kc ks) s m (as.map (pTv X)).toArray below meth c s.heap [] 0 0 _ (entryFrame m (as.map (pTv X)).toArray mL)
    rw [lg_entry_eq]
    exact hG s.heap _ [] 0 0 hW (pEnt_lr X hlen hl) (by rw [pEnt_len hlen, hml]) (fun q hq => by cases hq) (by omega) (by omega)
/-! more calls, a weaker end -/
theorem Go_mono {C C2 : pCt} {Q Q2 : pQ} {y : MethodName} {cc : ByteArray} {rt : Option FieldType} {kc ks pc : Nat} {ls : pL} {st : List Value} {M : pM} (hC : ∀ kc ks z as M Q, C kc ks z as M Q → C2 kc ks z as M Q) (hQ : ∀ r M, Q r M → Q2 r M) (h : Go C Q y cc rt kc ks pc ls st M) : Go C2 Q2 y cc rt kc ks pc ls st M := by
  intro P hP
  refine h P ?_
  obtain ⟨h1, h2, h3, h4, h5, h6, h7, h8, h9, h10, h11, h12, h13, h14, h15, h16, h17, h18, h19, h20, h21, h22, h23, h24, h25, h26, h27, h28, h29, h30, h31, h32, h33, h34, h35, h36, h37, h38, h39, h40⟩ := hP
  refine ⟨h1, h2, h3, h4, h5, h6, h7, h8, h9, h10, h11, h12, h13, h14, h15, h16, h17, h18, h19, h20, h21, h22, h23, h24, h25, h26, h27, h28, h29, h30, h31, h32, h33, ?_, ?_, ?_, ?_, ?_, ?_, ?_⟩
  · intro kc ks pc ls M st idx n kc2 ks2 as z Q2 a ci e1 e2 e3 e4 e5 e6 g
    exact h34 kc ks pc ls M st idx n kc2 ks2 as z Q2 a ci e1 e2 e3 e4 e5 (hC _ _ _ _ _ _ e6) g
  · intro kc ks pc ls M st idx n kc2 ks2 as z Q2 a e1 e2 e3 e4 e5 g
    exact h35 kc ks pc ls M st idx n kc2 ks2 as z Q2 a e1 e2 e3 e4 (hC _ _ _ _ _ _ e5) g
  · intro kc ks pc ls M st idx n kc2 ks2 as z Q2 e1 e2 e3 e4 e5 g
    exact h36 kc ks pc ls M st idx n kc2 ks2 as z Q2 e1 e2 e3 e4 (hC _ _ _ _ _ _ e5) g
  · intro kc ks pc ls M x e1 e2 e3
    exact h37 kc ks pc ls M x e1 e2 (hQ _ _ e3)
  · intro kc ks pc ls M x e1 e2 e3
    exact h38 kc ks pc ls M x e1 e2 (hQ _ _ e3)
  · intro kc ks pc ls M a nm e1 e2 e3
    exact h39 kc ks pc ls M a nm e1 e2 (hQ _ _ e3)
  · intro kc ks pc ls M e1 e2 e3
    exact h40 kc ks pc ls M e1 e2 (hQ _ _ e3)
theorem Ct_mono : ∀ {d : Nat} {kc ks : Nat} {z : MethodName} {as : List Value} {M : pM} {Q Q2 : pQ}, (∀ r M, Q r M → Q2 r M) → Ct d kc ks z as M Q → Ct d kc ks z as M Q2
  | 0, _, _, _, _, _, _, _, _, h => h.elim
  | d + 1, _, _, _, _, _, _, _, hQ, ⟨cc, mL, rt, h1, h2, h3, h4, h5, h⟩ => ⟨cc, mL, rt, h1, h2, h3, h4, h5, Go_mono (fun _ _ _ _ _ _ q => q) hQ h⟩
theorem Ct_succ : ∀ {d : Nat} {kc ks : Nat} {z : MethodName} {as : List Value} {M : pM} {Q : pQ}, Ct d kc ks z as M Q → Ct (d + 1) kc ks z as M Q
  | 0, _, _, _, _, _, _, h => h.elim
  | d + 1, _, _, _, _, _, _, ⟨cc, mL, rt, h1, h2, h3, h4, h5, h⟩ => ⟨cc, mL, rt, h1, h2, h3, h4, h5, Go_mono (fun _ _ _ _ _ _ q => Ct_succ q) (fun _ _ q => q) h⟩
theorem Ct_le {d d2 : Nat} (hd : d ≤ d2) {kc ks : Nat} {z : MethodName} {as : List Value} {M : pM} {Q : pQ} (h : Ct d kc ks z as M Q) : Ct d2 kc ks z as M Q := by
  obtain ⟨k, rfl⟩ := Nat.exists_eq_add_of_le hd
  clear hd
  induction k with
  | zero => exact h
  | succ k ih => exact Ct_succ ih
