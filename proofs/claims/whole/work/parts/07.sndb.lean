theorem pCell.kept {X : pX} {M M2 : pM} {U : State} {H H2 : Heap} {b : Nat} (hk : M2.1.2.1 b = M.1.2.1 b) (h1 : M2.2.1 b = M.2.1 b) (h2 : M2.2.2 b = M.2.2 b) (h3 : M2.1.2.2 b = M.1.2.2 b) (hq : H2[pAd X b]? = H[pAd X b]?) (h : pCell X M U H b) : pCell X M2 U H2 b := by
  have eF : ∀ k ty, pFv X M2 b k ty = pFv X M b k ty := fun k ty => by simp only [pFv, h1, h2, h3]
  have eA : ∀ t, pAv X M2 t b = pAv X M t b := fun t => by funext j; simp only [pAv, h1, h2, h3]
  refine ⟨fun ci e => ?_, fun t n e a1 a2 => ?_, fun n e => ?_⟩
  · obtain ⟨q, k1, k2⟩ := h.1 ci (by rw [← hk]; exact e)
    exact ⟨q, k1, (k2.kept hq).to (fun k _ => (eF k _).symm)⟩
  · obtain ⟨k0, cA, k1, k2, k3⟩ := h.2.1 t n (by rw [← hk]; exact e) a1 a2
    exact ⟨k0, cA, k1, k2, by rw [hq, eA]; exact k3⟩
  · obtain ⟨k0, scr, k1, k2⟩ := h.2.2 n (by rw [← hk]; exact e)
    exact ⟨k0, scr, by rw [hq]; exact k1, by rw [h1]; exact k2⟩
/-- one cell is written -/
theorem pW.set {X : pX} {M M2 : pM} {U : State} {H H2 : Heap} {a : Nat} (h : pW X M U H) (ha : 2 ≤ a) (hn : M2.1.1 = M.1.1) (hk : M2.1.2.1 = M.1.2.1) (h1 : ∀ b, b ≠ a → M2.2.1 b = M.2.1 b) (h2 : ∀ b, b ≠ a → M2.2.2 b = M.2.2 b) (h3 : ∀ b, b ≠ a → M2.1.2.2 b = M.1.2.2 b) (hz : H2.size = H.size) (hq : ∀ q : Nat, q ≠ pAd X a → H2[q]? = H[q]?) (hc : pCell X M2 U H2 a) : pW X M2 U H2 := by
  obtain ⟨w1, w2, w3, w4, w5, w6, w7⟩ := h
  refine ⟨w1, w2, w3, by rw [hn]; exact w4, by rw [hz, hn]; exact w5, fun q hlt => ?_, fun b => ?_⟩
  · rw [hq q (fun e => by have := pAd_ge (X := X) ha; omega)]
    exact w6 q hlt
  · by_cases hb : b = a
    · rw [hb]; exact hc
    · exact pCell.kept (by rw [hk]) (h1 b hb) (h2 b hb) (h3 b hb) (hq _ (fun e => hb (pAd_inj w3 e))) (w7 b)
theorem pDok_ty {d : String} (h : pDok d = true) : ∃ ty, parseFieldDescriptor d = some ty ∧ (pTy d = 0 → ty = .int) ∧ (pTy d = 1 → ty = .long) ∧ (pTy d = 3 → ty = .boolean) ∧ (pTy d = 2 → (∃ n, ty = .object n) ∨ ∃ t, ty = .array t) := by
  unfold pDok at h
  split at h <;> first | (rename_i e; exact ⟨_, e, by intro q; simp_all, by intro q; simp_all, by intro q; simp_all, by intro q; simp_all⟩) | cases h
section SNB
variable {p : Program} {l : Launch} {e : Env} {R : Room} {s : State} {m : MethodId} {args : Array Value} {below : List Frame} {meth : Method} {c : Code} {Qw : State → Prop} {X : pX} {d cx sx : Nat} {C : pCt} {Q : pQ} {y : MethodName} {cc : ByteArray} {rt : Option FieldType}
theorem pHts {q : vw_C} (hT : pTb s) (hc : pCok q) : ∀ w ∈ u_ws q.1 q.2.1 q.2.2, w.before args s = true := by
  intro w hw
  have hi := hc.1 w hw
  refine hT.use hi ?_ args
  obtain ⟨k, -, rfl⟩ := List.mem_map.mp hw
  unfold u_lay
  split <;> rfl
theorem sn_get (E : pE p R s m meth c d cx sx y cc) {M : pM} {H : Heap} {locs : List Loc} {cells slots a idx ci k ty pc : Nat} {arr : Array Slot} {st : List Value} (hW : pW X M s H) (hd : decode cc pc = .ok (.getfield idx, 3)) (hF : pFld y.cls idx ci k ty) (hK : M.1.2.1 a = (1, ci))
    (kk : W p l e R s m args below meth c H locs cells slots Qw (F0 m (pc + 3) arr (pFv X M a k ty :: st))) : W p l e R s m args below meth c H locs cells slots Qw (F0 m pc arr (.ref (pAd X a) :: st)) := by
  obtain ⟨hx, hb, hown, hnm, -⟩ := E
  obtain ⟨Cn, T, N, hcl, hk, hty, hlk⟩ := hF
  obtain ⟨q, hq, cell, q1, q2, q3, q4⟩ := (hW.2.2.2.2.2.2 a).1 ci hK
  have hqe : q = (Cn, T, N) := Option.some.inj (hq.symm.trans hcl)
  subst hqe
  have hok := pCok_of hcl
  obtain ⟨hS, hfc, kC, hkC, hkind⟩ := hW.2.1 ci _ hcl
  obtain ⟨cf, kf, fi, f, hi, hsl⟩ := hS k hk
  have hts := pHts (args := args) hW.1 hok
  have hst := (u_facts hfc hkC (u_lays hts (fun w h => h) hk) hi).1
  have hv : cell.slots[f.slot]? = some (pFv X M a k ty) := by rw [hsl, q4 k hk, ← hty]
  rcases hlk with hlk | ⟨h, hlk⟩
  · exact W.getf hx hb hown (hW.1.use hlk rfl args) hi hst q1 (by rw [q3]; exact fun h => by cases h) hv rfl rfl hd kk
  · exact va_Wgetf hx hb hown (hW.1.use hlk rfl args) hi hst q1 (by rw [q3]; exact fun h => by cases h) hv rfl rfl hd kk
theorem sn_getI (E : pE p R s m meth c d cx sx y cc) : pr_getI C Q y cc rt (pG p l e R s m args below meth c Qw X cx sx) := by
  intro kc ks pc ls M st a idx ci k hd hF hK g H arr locs cells slots hW hL hz hl hc hs
  have kk := g H arr locs cells slots hW hL hz hl hc hs
  rcases hF with hF | hF
  · exact sn_get E hW hd hF hK kk
  · exact sn_get E hW hd hF hK kk
theorem sn_getJ (E : pE p R s m meth c d cx sx y cc) : pr_getJ C Q y cc rt (pG p l e R s m args below meth c Qw X cx sx) := by
  intro kc ks pc ls M st a idx ci k hd hF hK g H arr locs cells slots hW hL hz hl hc hs
  have kk := g H arr locs cells slots hW hL hz hl hc hs
  exact sn_get E hW hd hF hK kk
theorem sn_getR (E : pE p R s m meth c d cx sx y cc) : pr_getR C Q y cc rt (pG p l e R s m args below meth c Qw X cx sx) := by
  intro kc ks pc ls M st a idx ci k b hd hF hK hR g H arr locs cells slots hW hL hz hl hc hs
  have kk := g H arr locs cells slots hW hL hz hl hc hs
  refine sn_get E hW hd hF hK ?_
  have e1 : pFv X M a k 2 = .ref (pAd X b) := by simp only [pFv, hR, pRf]; rfl
  rw [e1]
  exact kk
/-- a field is written -/
theorem sn_put (E : pE p R s m meth c d cx sx y cc) {M : pM} {H : Heap} {locs : List Loc} {cells slots a idx ci k ty pc : Nat} {arr : Array Slot} {st : List Value} {v : Value} (hW : pW X M s H) (hd : decode cc pc = .ok (.putfield idx, 3)) (hF : pFld y.cls idx ci k ty) (hWr : pWr y ci k) (hK : M.1.2.1 a = (1, ci))
    (hv : ∀ ft, (ty = 0 → ft = .int) ∧ (ty = 1 → ft = .long) ∧ (ty = 3 → ft = .boolean) ∧ (ty = 2 → (∃ n, ft = .object n) ∨ ∃ t, ft = .array t) → narrow ft v = v ∧ fits ft v = true)
    (kk : ∀ (H2 : Heap) (q : vw_C) (i : Nat), vwCl[ci]? = some q → pTy (q.2.1 k).2.2.1 = ty → t_OB (pAd X a) (X.2.2.2.1 ci) q.2.2 (X.2.2.2.2 ci) H2 (updV (fun k => pFv X M a k (pTy (q.2.1 k).2.2.1)) k v) → H2.size = H.size → (∀ z : Nat, z ≠ pAd X a → H2[z]? = H[z]?) → W p l e R s m args below meth c H2 (locs ++ [⟨pAd X a, i⟩]) cells slots Qw (F0 m (pc + 3) arr st)) :
    W p l e R s m args below meth c H locs cells slots Qw (F0 m pc arr (v :: .ref (pAd X a) :: st)) := by
  obtain ⟨hx, hb, hown, hnm, -⟩ := E
  obtain ⟨Cn, T, N, hcl, hk, hty, hlk⟩ := hF
  obtain ⟨Cn', T', N', hcl', hfin⟩ := hWr
  cases hcl.symm.trans hcl'
  obtain ⟨q, hq, cell, q1, q2, q3, q4⟩ := (hW.2.2.2.2.2.2 a).1 ci hK
  have hqe : q = (Cn, T, N) := Option.some.inj (hq.symm.trans hcl)
  subst hqe
  have hok := pCok_of hcl
  have hKn := hW.2.1
  obtain ⟨hS, hfc, kC, hkC, hkind⟩ := hW.2.1 ci _ hcl
  obtain ⟨cf, kf, fi, f, hi, hsl⟩ := hS k hk
  have hts := pHts (args := args) hW.1 hok
  have hlay := u_lays hts (fun w h => h) hk
  have hst := (u_facts hfc hkC hlay hi).1
  obtain ⟨ft, hft, hft1, hft2, hft3, hft4⟩ := pDok_ty (hok.2.2 k hk)
  simp only at hft hft1 hft2 hft3 hft4
  rw [hty] at hft1 hft2 hft3 hft4
  obtain ⟨hn, hfit⟩ := hv ft ⟨hft1, hft2, hft3, hft4⟩
  have h6 := u_fits hfc hkC hkind hlay hi hft hn hfit
  have hap : ∀ x z, x < N → z < N → x ≠ z → (X.2.2.2.2 ci) x ≠ (X.2.2.2.2 ci) z := by
    intro x z hxx hz hne
    obtain ⟨_, _, _, fa, hia, ea⟩ := hS x hxx
    obtain ⟨_, _, _, fb, hib, eb⟩ := hS z hz
    rw [← ea, ← eb]
    obtain ⟨ta, hta, -⟩ := pDok_ty (hok.2.2 x hxx)
    obtain ⟨tb, htb, -⟩ := pDok_ty (hok.2.2 z hz)
    refine u_apart (u_lays hts (fun w h => h) hxx) (u_lays hts (fun w h => h) hz) hia hib ?_
    rw [(State.fieldFound?_type hia hta).1, (State.fieldFound?_type hib htb).1]
    exact hok.2.1 x hxx z hz hne
  have hfl : hasFlag f.accessFlags Acc.final = false ∨ (m.cls = cf ∧ meth.name = "<init>") := by
    have hl := hts _ (u_in_lay (C := Cn) (T := T) (N := N) hk)
    unfold u_lay at hl
    rcases hfin with hfin | ⟨hfin, hini, hdecl⟩
    · rw [if_neg (by rw [hfin]; decide)] at hl
      exact Or.inl (u_store hfc hkC hkind hl hi hft hn hfit).1
    · rw [if_pos hfin] at hl
      obtain ⟨_, _, c', _, _, _, -, -, hf', -, -, -, hown2, -⟩ := Cond.laysFinal_spec hl
      have e1 : c' = cf := by have := hi.symm.trans hf'; simp at this; exact this.1.symm
      rw [hdecl] at hown2
      exact Or.inr ⟨by rw [← e1]; exact Option.some.inj (hown.symm.trans hown2), hnm hini⟩
  have ha : pAd X a < H.size := (Array.getElem?_eq_some_iff.mp q1).1
  have hlt : f.slot < cell.slots.size := by rw [hsl]; exact k2_hasslot (q4 k hk)
  have hkn : cell.vm ≠ .unknown := by rw [q3]; exact fun h => by cases h
  have hfs : s.fitsSlot cell.cls cell.vm f.slot v = true := by rw [q3, q2]; exact h6.2
  have kk2 : W p l e R s m args below meth c (H.setIfInBounds (pAd X a) (cell.setSlot f.slot v)) (locs ++ [⟨pAd X a, f.slot⟩]) cells slots Qw (F0 m (pc + 3) arr st) := by
    refine kk _ (Cn, T, N) f.slot hcl hty ⟨cell.setSlot f.slot v, by simp [Array.getElem?_setIfInBounds, ha], q2, q3, ?_⟩ (by simp) (fun z hz => by simp [Array.getElem?_setIfInBounds, Ne.symm hz])
    rw [hsl]
    exact t_set q4 hap hk v
  rcases hlk with hlk | ⟨h, hlk⟩
  · exact W.putf hx hb hown (hW.1.use hlk rfl args) hi hst hfl q1 hkn hlt h6.1 hfs rfl rfl hd kk2
  · exact va_Wputf hx hb hown (hW.1.use hlk rfl args) hi hst hfl q1 hkn hlt h6.1 hfs rfl rfl hd kk2
theorem pLocs {X : pX} {locs : List Loc} {a i : Nat} (h : ∀ q ∈ locs, X.2.2.1.size ≤ q.base) (ha : 2 ≤ a) : ∀ q ∈ locs ++ [⟨pAd X a, i⟩], X.2.2.1.size ≤ q.base := by
  intro q hq
  rcases List.mem_append.mp hq with h1 | h1
  · exact h q h1
  · rw [List.mem_singleton.mp h1]
    exact pAd_ge ha
theorem pObj_cell {X : pX} {M : pM} {U : State} {H : Heap} {a ci : Nat} (hK : M.1.2.1 a = (1, ci)) (h : pObj X M H a ci) : pCell X M U H a := by
  refine ⟨fun c e => ?_, fun t n e h2 _ => ?_, fun n e => ?_⟩
  · cases hK.symm.trans e; exact h
  · cases hK.symm.trans e; omega
  · cases hK.symm.trans e
theorem sn_putI (E : pE p R s m meth c d cx sx y cc) : pr_putI C Q y cc rt (pG p l e R s m args below meth c Qw X cx sx) := by
  intro kc ks pc ls M st a idx ci k x hd hF hWr hK ha g H arr locs cells slots hW hL hz hl hc hs
  have key : ∀ ty, pFld y.cls idx ci k ty → (ty = 0 ∨ ty = 3) → (∀ ft, (ty = 0 → ft = .int) ∧ (ty = 1 → ft = .long) ∧ (ty = 3 → ft = .boolean) ∧ (ty = 2 → (∃ n, ft = .object n) ∨ ∃ t, ft = .array t) → narrow ft (.int (iI x)) = .int (iI x) ∧ fits ft (.int (iI x)) = true) → W p l e R s m args below meth c H locs cells slots Qw (F0 m pc arr ((Value.int (iI x) :: Value.ref a :: st).map (pTv X))) := by
    intro ty hF hty hv
    refine sn_put E hW hd hF hWr hK hv (fun H2 q i hcl hqt hob z1 z2 => ?_)
    refine g H2 arr _ cells slots (hW.set (a := a) ha rfl rfl (fun b hb => by simp only [pI, pU, if_neg hb]) (fun b hb => rfl) (fun b hb => rfl) z1 z2 (pObj_cell hK ⟨q, hcl, hob.to (fun j _ => ?_)⟩)) hL hz (pLocs hl ha) hc hs
    by_cases hj : j = k
    · subst hj
      simp only [updV, if_true, pFv, hqt]
      rcases hty with rfl | rfl <;> simp [pI, pU, va_up, pTv]
    · simp only [updV, if_neg hj, pFv, pI, pU, if_true, va_up]
  rcases hF with hF | ⟨hF, hx01⟩
  · refine key 0 hF (Or.inl rfl) (fun ft h => ?_)
    rw [h.1 rfl]
    exact ⟨rfl, rfl⟩
  · refine key 3 hF (Or.inr rfl) (fun ft h => ?_)
    rw [h.2.2.1 rfl]
    rcases hx01 with rfl | rfl <;> exact ⟨rfl, rfl⟩
theorem sn_putJ (E : pE p R s m meth c d cx sx y cc) : pr_putJ C Q y cc rt (pG p l e R s m args below meth c Qw X cx sx) := by
  intro kc ks pc ls M st a idx ci k x hd hF hWr hK ha g H arr locs cells slots hW hL hz hl hc hs
  refine sn_put E hW hd hF hWr hK (fun ft h => by rw [h.2.1 rfl]; exact ⟨rfl, rfl⟩) (fun H2 q i hcl hqt hob z1 z2 => ?_)
  refine g H2 arr _ cells slots (hW.set (a := a) ha rfl rfl (fun b hb => rfl) (fun b hb => by simp only [pJ, pU, if_neg hb]) (fun b hb => rfl) z1 z2 (pObj_cell hK ⟨q, hcl, hob.to (fun j _ => ?_)⟩)) hL hz (pLocs hl ha) hc hs
  by_cases hj : j = k
  · subst hj
    simp only [updV, if_true, pFv, hqt]
    simp [pJ, pU, va_up, pTv]
  · simp only [updV, if_neg hj, pFv, pJ, pU, if_true, va_up]
theorem sn_putR (E : pE p R s m meth c d cx sx y cc) : pr_putR C Q y cc rt (pG p l e R s m args below meth c Qw X cx sx) := by
  intro kc ks pc ls M st a idx ci k x hd hF hWr hK ha g H arr locs cells slots hW hL hz hl hc hs
  refine sn_put E hW hd hF hWr hK (fun ft h => by rcases h.2.2.2 rfl with ⟨n, rfl⟩ | ⟨t, rfl⟩ <;> exact ⟨rfl, rfl⟩) (fun H2 q i hcl hqt hob z1 z2 => ?_)
  refine g H2 arr _ cells slots (hW.set (a := a) ha rfl rfl (fun b hb => rfl) (fun b hb => rfl) (fun b hb => by simp only [pR, pU, if_neg hb]) z1 z2 (pObj_cell hK ⟨q, hcl, hob.to (fun j _ => ?_)⟩)) hL hz (pLocs hl ha) hc hs
  by_cases hj : j = k
  · subst hj
    simp only [updV, if_true, pFv, hqt]
    simp [pR, pU, va_up, pTv, pRf]
  · simp only [updV, if_neg hj, pFv, pR, pU, if_true, va_up]
end SNB
