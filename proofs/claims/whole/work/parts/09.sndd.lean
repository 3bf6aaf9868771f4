theorem pw_oi : Cond.instanceMethod objectInit ∈ lw_tbl := pIn 31 (by decide +kernel)
theorem pw_oc : Cond.code objectInit ⟨#[0xb1]⟩ 1 none ∈ lw_tbl := pIn 32 (by decide +kernel)
theorem pw_aI : Cond.arrayClass .int ∈ lw_tbl := pIn 117 (by decide +kernel)
theorem pw_aJ : Cond.arrayClass .long ∈ lw_tbl := pIn 115 (by decide +kernel)
theorem pw_aB : Cond.arrayClass .byte ∈ lw_tbl := pIn 116 (by decide +kernel)
theorem pw_aZ : Cond.arrayClass .boolean ∈ lw_tbl := pIn 309 (by decide +kernel)
theorem pw_cs : Cond.static arraycopyName ∈ lw_tbl := pIn 673 (by decide +kernel)
theorem pw_cn : Cond.native arraycopyName ∈ lw_tbl := pIn 674 (by decide +kernel)
theorem pw_ci : Cond.initialized "java/lang/System" ∈ lw_tbl := pIn 19 (by decide +kernel)
theorem pCat_eq (X : pX) : ∀ st : List Value, ((st.map (pTv X)).map fun v => v.category).sum = pCat st
  | [] => rfl
  | v :: r => by simp only [List.map_cons, List.sum_cons, pCat, pTv_cat, pCat_eq X r]
/-- a cell is made -/
theorem pW.new {X : pX} {M : pM} {U : State} {H H2 : Heap} {t n : Nat} (h : pW X M U H) (hz : H2.size = H.size + 1) (hq : ∀ q : Nat, q < H.size → H2[q]? = H[q]?) (hc : pCell X (pNew M t n) U H2 M.1.1) : pW X (pNew M t n) U H2 := by
  obtain ⟨w1, w2, w3, w4, w5, w6, w7⟩ := h
  refine ⟨w1, w2, w3, by show 2 ≤ M.1.1 + 1; omega, by show H2.size = pAd X (M.1.1 + 1); rw [hz, pAd_succ w4, w5], fun q hlt => ?_, fun b => ?_⟩
  · have h1 := pAd_ge (X := X) w4
    rw [hq q (by omega)]
    exact w6 q hlt
  · by_cases hb : b = M.1.1
    · rw [hb]; exact hc
    · have hk : (pNew M t n).1.2.1 b = M.1.2.1 b := by simp only [pNew, va_up, if_neg hb]
      have h1 : (pNew M t n).2.1 b = M.2.1 b := by simp only [pNew, pZ, if_neg hb]
      have h2 : (pNew M t n).2.2 b = M.2.2 b := by simp only [pNew, pZ, if_neg hb]
      have h3 : (pNew M t n).1.2.2 b = M.1.2.2 b := by simp only [pNew, pZ, if_neg hb]
      by_cases hlt : pAd X b < H.size
      · exact pCell.kept hk h1 h2 h3 (hq _ hlt) (w7 b)
      · have hnone : H[pAd X b]? = none := Array.getElem?_eq_none (by omega)
        refine ⟨fun ci e => ?_, fun t' n' e a1 a2 => ?_, fun n' e => ?_⟩
        · obtain ⟨q, k1, cell, k2, -⟩ := (w7 b).1 ci (by rw [← hk]; exact e)
          rw [hnone] at k2; cases k2
        · obtain ⟨k0, cA, k1, k2, k3⟩ := (w7 b).2.1 t' n' (by rw [← hk]; exact e) a1 a2
          rw [hnone] at k3; cases k3
        · obtain ⟨k0, scr, k1, k2⟩ := (w7 b).2.2 n' (by rw [← hk]; exact e)
          rw [hnone] at k1; cases k1
section SND
variable {p : Program} {l : Launch} {e : Env} {R : Room} {s : State} {m : MethodId} {args : Array Value} {below : List Frame} {meth : Method} {c : Code} {Qw : State → Prop} {X : pX} {d cx sx : Nat} {C : pCt} {Q : pQ} {y : MethodName} {cc : ByteArray} {rt : Option FieldType}
theorem sn_new (E : pE p R s m meth c d cx sx y cc) : pr_new C Q y cc rt (pG p l e R s m args below meth c Qw X cx sx) := by
  intro kc ks pc ls M st idx ci N hd hC g H arr locs cells slots hW hL hz hl hc hs
  obtain ⟨hx, hb, hown, hnm, hcx, hsx, hfr, hlo⟩ := E
  obtain ⟨Cn, T, hcl, hlk, hin, hini⟩ := hC
  have hok := pCok_of hcl
  have hKn := hW.2.1 ci _ hcl
  refine W.newcK hx hb hown (hW.1.use hlk rfl args) (hW.1.use hin rfl args) (hW.1.use hini rfl args) rfl hd (by omega) (by omega) hKn.2.1 rfl (fun H2 kC hkC e1 z1 o1 => ?_)
  have hts := pHts (args := args) hW.1 hok
  have hbn := u_born (ty := fun k => (parseFieldDescriptor (T k).2.2.1).getD .int) hts (fun w h => h) hKn hkC e1 (fun k hk => by
    obtain ⟨ft, h1, -⟩ := pDok_ty (hok.2.2 k hk)
    simp only at h1 ⊢
    rw [h1]; rfl)
  have hsz := hW.2.2.2.2.1
  have hw2 : pW X (pNew M 1 ci) s H2 := hW.new z1 (fun q hq => o1 q hq) (pObj_cell (ci := ci) (by simp [pNew, va_up]) ⟨_, hcl, ?_⟩)
  · have kk := g H2 arr locs (cells + 1) (slots + N) hw2 hL hz hl (by omega) (by omega)
    have e2 : pTv X (.ref M.1.1) = .ref H.size := by rw [hsz]; rfl
    rw [List.map_cons, e2] at kk
    exact kk
  · rw [← hsz]
    refine hbn.to (fun k hk => ?_)
    obtain ⟨ft, h1, h2, h3, h4, h5⟩ := pDok_ty (hok.2.2 k hk)
    simp only at h1 h2 h3 h4 h5 ⊢
    rw [h1]
    simp only [Option.getD_some, pFv, pNew, pZ, if_true, pRf]
    have hdk := hok.2.2 k hk
    simp only at hdk
    by_cases t1 : pTy (T k).2.2.1 = 1
    · rw [h3 t1, if_pos t1]; rfl
    · rw [if_neg t1]
      by_cases t2 : pTy (T k).2.2.1 = 2
      · rw [if_pos t2]
        rcases h5 t2 with ⟨n, rfl⟩ | ⟨n, rfl⟩ <;> rfl
      · rw [if_neg t2]
        by_cases t0 : pTy (T k).2.2.1 = 0
        · rw [h2 t0]; rfl
        · by_cases t3 : pTy (T k).2.2.1 = 3
          · rw [h4 t3]; rfl
          · exfalso
            unfold pTy at t0 t1 t2 t3
            split at t0
            · exact t0 rfl
            · split at t0
              · rename_i q1 q2; rw [if_neg q1, if_pos q2] at t1; exact t1 rfl
              · split at t0
                · rename_i q1 q2 q3; rw [if_neg q1, if_neg q2, if_pos q3] at t3; exact t3 rfl
                · rename_i q1 q2 q3; rw [if_neg q1, if_neg q2, if_neg q3] at t2; exact t2 rfl
theorem sn_newa (E : pE p R s m meth c d cx sx y cc) : pr_newa C Q y cc rt (pG p l e R s m args below meth c Qw X cx sx) := by
  intro kc ks pc ls M st ty t n j hd hty hj hn g H arr locs cells slots hW hL hz hl hc hs
  obtain ⟨hx, hb, hown, hnm, hcx, hsx, hfr, hlo⟩ := E
  rw [iI_nat] at hj
  subst hj
  have hsz := hW.2.2.2.2.1
  have hcl : (nI n).toNatClampNeg = n := nI_clamp (by omega)
  rcases hty with ⟨rfl, rfl⟩ | ⟨rfl, rfl⟩ | ⟨rfl, rfl⟩ | ⟨rfl, rfl⟩
  · have ha : (Cond.arrayClass .int).before args s = true := hW.1.use pw_aI rfl args
    refine va_newaK (atype := .int) hx hb ha rfl hd rfl (nI_pos (by omega)) hcl (by show n * 4 ≤ _; omega) (by omega) (by omega) rfl (fun H2 cA e1 z1 o1 hA hNm => ?_)
    have hw2 : pW X (pNew M 2 n) s H2 := hW.new z1 (fun q hq => o1 q hq) (pArr_cell (t := 2) (n := n) (by simp [pNew, va_up]) (by omega) (by omega) ⟨by omega, cA, hA, hNm, ?_⟩)
    · have kk := g H2 arr locs (cells + 1) (slots + n) hw2 hL hz hl (by omega) (by omega)
      have e2 : pTv X (.ref M.1.1) = .ref H.size := by rw [hsz]; rfl
      rw [List.map_cons, e2] at kk
      exact kk
    · rw [← hsz, e1]
      congr 2
      funext q
      simp only [pAv, pNew, pZ, if_true]
      rfl
  · have ha : (Cond.arrayClass .long).before args s = true := hW.1.use pw_aJ rfl args
    refine va_newaK (atype := .long) hx hb ha rfl hd rfl (nI_pos (by omega)) hcl (by show n * 8 ≤ _; omega) (by omega) (by omega) rfl (fun H2 cA e1 z1 o1 hA hNm => ?_)
    have hw2 : pW X (pNew M 3 n) s H2 := hW.new z1 (fun q hq => o1 q hq) (pArr_cell (t := 3) (n := n) (by simp [pNew, va_up]) (by omega) (by omega) ⟨by omega, cA, hA, hNm, ?_⟩)
    · have kk := g H2 arr locs (cells + 1) (slots + n) hw2 hL hz hl (by omega) (by omega)
      have e2 : pTv X (.ref M.1.1) = .ref H.size := by rw [hsz]; rfl
      rw [List.map_cons, e2] at kk
      exact kk
    · rw [← hsz, e1]
      congr 2
      funext q
      simp only [pAv, pNew, pZ, if_true]
      rfl
  · have ha : (Cond.arrayClass .byte).before args s = true := hW.1.use pw_aB rfl args
    refine va_newaK (atype := .byte) hx hb ha rfl hd rfl (nI_pos (by omega)) hcl (by show n * 1 ≤ _; omega) (by omega) (by omega) rfl (fun H2 cA e1 z1 o1 hA hNm => ?_)
    have hw2 : pW X (pNew M 4 n) s H2 := hW.new z1 (fun q hq => o1 q hq) (pArr_cell (t := 4) (n := n) (by simp [pNew, va_up]) (by omega) (by omega) ⟨by omega, cA, hA, hNm, ?_⟩)
    · have kk := g H2 arr locs (cells + 1) (slots + n) hw2 hL hz hl (by omega) (by omega)
      have e2 : pTv X (.ref M.1.1) = .ref H.size := by rw [hsz]; rfl
      rw [List.map_cons, e2] at kk
      exact kk
    · rw [← hsz, e1]
      congr 2
      funext q
      simp only [pAv, pNew, pZ, if_true]
      rfl
  · have ha : (Cond.arrayClass .boolean).before args s = true := hW.1.use pw_aZ rfl args
    refine va_newaK (atype := .boolean) hx hb ha rfl hd rfl (nI_pos (by omega)) hcl (by show n * 1 ≤ _; omega) (by omega) (by omega) rfl (fun H2 cA e1 z1 o1 hA hNm => ?_)
    have hw2 : pW X (pNew M 5 n) s H2 := hW.new z1 (fun q hq => o1 q hq) (pArr_cell (t := 5) (n := n) (by simp [pNew, va_up]) (by omega) (by omega) ⟨by omega, cA, hA, hNm, ?_⟩)
    · have kk := g H2 arr locs (cells + 1) (slots + n) hw2 hL hz hl (by omega) (by omega)
      have e2 : pTv X (.ref M.1.1) = .ref H.size := by rw [hsz]; rfl
      rw [List.map_cons, e2] at kk
      exact kk
    · rw [← hsz, e1]
      congr 2
      funext q
      simp only [pAv, pNew, pZ, if_true]
      rfl
theorem sn_anew (E : pE p R s m meth c d cx sx y cc) : pr_anew C Q y cc rt (pG p l e R s m args below meth c Qw X cx sx) := by
  intro kc ks pc ls M st idx n j hd hlk hj hn g H arr locs cells slots hW hL hz hl hc hs
  obtain ⟨hx, hb, hown, hnm, hcx, hsx, hfr, hlo⟩ := E
  rw [iI_nat] at hj
  subst hj
  have hsz := hW.2.2.2.2.1
  have hcl : (nI n).toNatClampNeg = n := nI_clamp (by omega)
  refine W.anew hx hb hown (hW.1.use hlk rfl args) (hW.1.2.use) rfl hd rfl (nI_pos (by omega)) (by rw [hcl]; omega) (by omega) (by rw [hcl]; omega) (fun cA kA comp h1 h2 h3 h4 => ?_)
  rw [hcl, arrV_new]
  have hw2 : pW X (pNew M 6 n) s (H.push (arrV cA n fun _ => .null)) := hW.new (by simp) (fun q hq => by rw [Array.getElem?_push, if_neg (Nat.ne_of_lt hq)]) (pArr_cell (t := 6) (n := n) (by simp [pNew, va_up]) (by omega) (by omega) ⟨by omega, cA, fun n z => ⟨fun k h => (by cases h), kA, h2, comp, h3⟩, ⟨kA, comp, h2, h3, h4, h1⟩, ?_⟩)
  · have kk := g _ arr locs (cells + 1) (slots + n) hw2 hL hz hl (by omega) (by omega)
    have e2 : pTv X (.ref M.1.1) = .ref H.size := by rw [hsz]; rfl
    rw [List.map_cons, e2] at kk
    exact kk
  · rw [← hsz]
    simp only [Array.getElem?_push_size]
    congr 2
    funext q
    simp [pAv, pNew, pZ, pRf]
theorem sn_oini (E : pE p R s m meth c d cx sx y cc) : pr_oini C Q y cc rt (pG p l e R s m args below meth c Qw X cx sx) := by
  intro kc ks pc ls M st idx a hd hlk hst g H arr locs cells slots hW hL hz hl hc hs
  have kk := g H arr locs cells slots hW hL hz hl hc hs
  obtain ⟨hx, hb, hown, hnm, hcx, hsx, hfr, hlo⟩ := E
  refine W.objInit hx hb hown (hW.1.use hlk rfl args) (hW.1.use pw_oi rfl args) (hW.1.use pw_oc rfl args) rfl (by show arr.size = _; rw [hL.1]; exact hz) rfl hd (by omega) ?_ kk
  show 2 * 0 + _ + 12 ≤ R.locals
  rw [pCat_eq]
  omega
theorem sn_cpI (E : pE p R s m meth c d cx sx y cc) : pr_cpI C Q y cc rt (pG p l e R s m args below meth c Qw X cx sx) := by
  intro kc ks pc ls M st idx a b na nb sp dp n js jd jn hd hKa hKb hlk hb2 hjs hjd hjn h4 h5 hst g H arr locs cells slots hW hL hz hl hc hs
  obtain ⟨hx, hb, hown, hnm, hcx, hsx, hfr, hlo⟩ := E
  rw [iI_nat] at hjs hjd hjn
  subst hjs; subst hjd; subst hjn
  obtain ⟨hna, c0, k0, r0, hc0⟩ := (hW.2.2.2.2.2.2 a).2.1 2 na hKa (by omega) (by omega)
  obtain ⟨hnb, c1, k1, r1, hc1⟩ := (hW.2.2.2.2.2.2 b).2.1 2 nb hKb (by omega) (by omega)
  have ea : pAv X M 2 a = fun j => (fun z => Value.int (iI z)) (M.2.1 a j) := by funext j; simp [pAv]
  have eb : pAv X M 2 b = fun j => (fun z => Value.int (iI z)) (M.2.1 b j) := by funext j; simp [pAv]
  rw [ea] at hc0
  rw [eb] at hc1
  have cs : (nI sp).toNatClampNeg = sp := nI_clamp (by omega)
  have cd : (nI dp).toNatClampNeg = dp := nI_clamp (by omega)
  have cn : (nI n).toNatClampNeg = n := nI_clamp (by omega)
  intro T hT X9
  obtain ⟨-, q0, hq0, cm0, hkk0⟩ := k0 na (fun j => (fun z => Value.int (iI z)) (M.2.1 a j))
  obtain ⟨-, q1, hq1, cm1, hkk1⟩ := k1 nb (fun j => (fun z => Value.int (iI z)) (M.2.1 b j))
  obtain ⟨vm', X', step⟩ := X9.arraycopy hx hown (hW.1.use hlk rfl args) (hW.1.use pw_cn rfl args) (hW.1.use pw_cs rfl args) (hW.1.use pw_ci rfl args) (src := pAd X a) (dst := pAd X b) (cs := arrV c0 na (fun j => (fun z => Value.int (iI z)) (M.2.1 a j))) (cd := arrV c1 nb (fun j => (fun z => Value.int (iI z)) (M.2.1 b j))) (srcPos := nI sp) (destPos := nI dp) (n := nI n) (by rw [hT]; exact hc0) (by rw [hT]; exact hc1)
    (fun _ h => by cases h) (fun _ h => by cases h) (fun h => by cases h) (fun h => by cases h) hq0 hq1 hkk0 hkk1 (by rfl) (nI_pos (by omega)) (nI_pos (by omega)) (nI_pos (by omega))
    (by rw [nI_toInt (by omega), nI_toInt (by omega), arrV_size]; omega)
    (by rw [nI_toInt (by omega), nI_toInt (by omega), arrV_size]; omega)
    (fun vm₁ _ i hi => by
      rw [cn] at hi
      have e : (arrV c0 na (fun j => (fun z => Value.int (iI z)) (M.2.1 a j))).slots.getD ((nI sp).toNatClampNeg + i) .null = (fun z => Value.int (iI z)) (M.2.1 a (sp + i)) := by
        rw [cs, Array.getD_eq_getD_getElem?, arrV_read _ _ (by omega)]
        rfl
      rw [e]
      exact ⟨rfl, trivial⟩)
    (g := F0 m pc arr (.int (nI n) :: .int (nI dp) :: .ref (pAd X b) :: .int (nI sp) :: .ref (pAd X a) :: st.map (pTv X))) rfl (by show arr.size = _; rw [hL.1]; exact hz) (rest := st.map (pTv X)) rfl (by rw [hb]; exact hd) (by omega) (by
      show 2 * 0 + _ + (7 + 11) ≤ R.locals
      rw [pCat_eq]
      omega)
  have e1 : copied (arrV c0 na (fun j => (fun z => Value.int (iI z)) (M.2.1 a j))) (arrV c1 nb (fun j => (fun z => Value.int (iI z)) (M.2.1 b j))) (nI sp) (nI dp) (nI n) = arrV c1 nb (fun j => (fun z => Value.int (iI z)) (va_cpy (M.2.1 a) (M.2.1 b) (nI sp).toNatClampNeg (nI dp).toNatClampNeg (nI n).toNatClampNeg j)) := va_copied (fun z => (fun z => Value.int (iI z)) z) c0 c1 (M.2.1 a) (M.2.1 b) (by rw [cs, cn]; exact h4)
  rw [cs, cd, cn] at e1
  rw [e1] at X' step
  have hlb : pAd X b < H.size := (Array.getElem?_eq_some_iff.mp hc1).1
  have hheap : ((T.setVm vm').setCell (pAd X b) (arrV c1 nb (fun j => (fun z => Value.int (iI z)) (va_cpy (M.2.1 a) (M.2.1 b) sp dp n j)))).heap = H.setIfInBounds (pAd X b) (arrV c1 nb (fun j => (fun z => Value.int (iI z)) (va_cpy (M.2.1 a) (M.2.1 b) sp dp n j))) := by rw [← hT]; rfl
  have hw2 : pW X (pCpI M a b sp dp n) s (H.setIfInBounds (pAd X b) (arrV c1 nb (fun j => (fun z => Value.int (iI z)) (va_cpy (M.2.1 a) (M.2.1 b) sp dp n j)))) := by
    refine hW.set (a := b) hb2 rfl rfl (fun z hz => by simp only [pCpI, if_neg hz]) (fun z hz => rfl) (fun z hz => rfl) (by simp) (fun q hq => by simp [Array.getElem?_setIfInBounds, Ne.symm hq]) (pArr_cell hKb (by omega) (by omega) ⟨hnb, c1, k1, r1, ?_⟩)
    have e3 : pAv X (pCpI M a b sp dp n) 2 b = fun j => (fun z => Value.int (iI z)) (va_cpy (M.2.1 a) (M.2.1 b) sp dp n j) := by funext j; simp [pAv, pCpI]
    rw [e3]
    simp [Array.getElem?_setIfInBounds, hlb]
  obtain ⟨t, a1, b1⟩ := g _ arr _ cells slots hw2 hL hz (fun q hq => by
      rcases List.mem_append.mp hq with h | h
      · exact hl q h
      · obtain ⟨z, -, hz⟩ := List.mem_map.mp h
        rw [← hz]
        exact pAd_ge hb2) hc hs _ hheap X'
  exact ⟨t, step t a1, b1⟩
theorem sn_cpJ (E : pE p R s m meth c d cx sx y cc) : pr_cpJ C Q y cc rt (pG p l e R s m args below meth c Qw X cx sx) := by
  intro kc ks pc ls M st idx a b na nb sp dp n js jd jn hd hKa hKb hlk hb2 hjs hjd hjn h4 h5 hst g H arr locs cells slots hW hL hz hl hc hs
  obtain ⟨hx, hb, hown, hnm, hcx, hsx, hfr, hlo⟩ := E
  rw [iI_nat] at hjs hjd hjn
  subst hjs; subst hjd; subst hjn
  obtain ⟨hna, c0, k0, r0, hc0⟩ := (hW.2.2.2.2.2.2 a).2.1 3 na hKa (by omega) (by omega)
  obtain ⟨hnb, c1, k1, r1, hc1⟩ := (hW.2.2.2.2.2.2 b).2.1 3 nb hKb (by omega) (by omega)
  have ea : pAv X M 3 a = fun j => .long (M.2.2 a j) := by funext j; simp [pAv]
  have eb : pAv X M 3 b = fun j => .long (M.2.2 b j) := by funext j; simp [pAv]
  rw [ea] at hc0
  rw [eb] at hc1
  have cs : (nI sp).toNatClampNeg = sp := nI_clamp (by omega)
  have cd : (nI dp).toNatClampNeg = dp := nI_clamp (by omega)
  have cn : (nI n).toNatClampNeg = n := nI_clamp (by omega)
  intro T hT X9
  obtain ⟨-, q0, hq0, cm0, hkk0⟩ := k0 na (fun j => .long (M.2.2 a j))
  obtain ⟨-, q1, hq1, cm1, hkk1⟩ := k1 nb (fun j => .long (M.2.2 b j))
  obtain ⟨vm', X', step⟩ := X9.arraycopy hx hown (hW.1.use hlk rfl args) (hW.1.use pw_cn rfl args) (hW.1.use pw_cs rfl args) (hW.1.use pw_ci rfl args) (src := pAd X a) (dst := pAd X b) (cs := arrV c0 na (fun j => .long (M.2.2 a j))) (cd := arrV c1 nb (fun j => .long (M.2.2 b j))) (srcPos := nI sp) (destPos := nI dp) (n := nI n) (by rw [hT]; exact hc0) (by rw [hT]; exact hc1)
    (fun _ h => by cases h) (fun _ h => by cases h) (fun h => by cases h) (fun h => by cases h) hq0 hq1 hkk0 hkk1 (by rfl) (nI_pos (by omega)) (nI_pos (by omega)) (nI_pos (by omega))
    (by rw [nI_toInt (by omega), nI_toInt (by omega), arrV_size]; omega)
    (by rw [nI_toInt (by omega), nI_toInt (by omega), arrV_size]; omega)
    (fun vm₁ _ i hi => by
      rw [cn] at hi
      have e : (arrV c0 na (fun j => .long (M.2.2 a j))).slots.getD ((nI sp).toNatClampNeg + i) .null = .long (M.2.2 a (sp + i)) := by
        rw [cs, Array.getD_eq_getD_getElem?, arrV_read _ _ (by omega)]
        rfl
      rw [e]
      exact ⟨rfl, trivial⟩)
    (g := F0 m pc arr (.int (nI n) :: .int (nI dp) :: .ref (pAd X b) :: .int (nI sp) :: .ref (pAd X a) :: st.map (pTv X))) rfl (by show arr.size = _; rw [hL.1]; exact hz) (rest := st.map (pTv X)) rfl (by rw [hb]; exact hd) (by omega) (by
      show 2 * 0 + _ + (7 + 11) ≤ R.locals
      rw [pCat_eq]
      omega)
  have e1 : copied (arrV c0 na (fun j => .long (M.2.2 a j))) (arrV c1 nb (fun j => .long (M.2.2 b j))) (nI sp) (nI dp) (nI n) = arrV c1 nb (fun j => .long (va_cpy (M.2.2 a) (M.2.2 b) (nI sp).toNatClampNeg (nI dp).toNatClampNeg (nI n).toNatClampNeg j)) := va_copied (fun z => .long z) c0 c1 (M.2.2 a) (M.2.2 b) (by rw [cs, cn]; exact h4)
  rw [cs, cd, cn] at e1
  rw [e1] at X' step
  have hlb : pAd X b < H.size := (Array.getElem?_eq_some_iff.mp hc1).1
  have hheap : ((T.setVm vm').setCell (pAd X b) (arrV c1 nb (fun j => .long (va_cpy (M.2.2 a) (M.2.2 b) sp dp n j)))).heap = H.setIfInBounds (pAd X b) (arrV c1 nb (fun j => .long (va_cpy (M.2.2 a) (M.2.2 b) sp dp n j))) := by rw [← hT]; rfl
  have hw2 : pW X (pCpJ M a b sp dp n) s (H.setIfInBounds (pAd X b) (arrV c1 nb (fun j => .long (va_cpy (M.2.2 a) (M.2.2 b) sp dp n j)))) := by
    refine hW.set (a := b) hb2 rfl rfl (fun z hz => rfl) (fun z hz => by simp only [pCpJ, if_neg hz]) (fun z hz => rfl) (by simp) (fun q hq => by simp [Array.getElem?_setIfInBounds, Ne.symm hq]) (pArr_cell hKb (by omega) (by omega) ⟨hnb, c1, k1, r1, ?_⟩)
    have e3 : pAv X (pCpJ M a b sp dp n) 3 b = fun j => .long (va_cpy (M.2.2 a) (M.2.2 b) sp dp n j) := by funext j; simp [pAv, pCpJ]
    rw [e3]
    simp [Array.getElem?_setIfInBounds, hlb]
  obtain ⟨t, a1, b1⟩ := g _ arr _ cells slots hw2 hL hz (fun q hq => by
      rcases List.mem_append.mp hq with h | h
      · exact hl q h
      · obtain ⟨z, -, hz⟩ := List.mem_map.mp h
        rw [← hz]
        exact pAd_ge hb2) hc hs _ hheap X'
  exact ⟨t, step t a1, b1⟩
end SND
