/-! calls and returns -/
def pPc (X : pX) (as : List Value) (M : pM) : Array Value → State → Prop := fun v U => v = (as.map (pTv X)).toArray ∧ pW X M U U.heap
def pQc (X : pX) (Q : pQ) : Array Value → State → Outcome → State → Prop := fun _ _ o t => ∃ (r : Option Value) (M2 : pM), o = .returned (r.map (pTv X)) ∧ Q r M2 ∧ pW X M2 t t.heap
def pRm (d kc ks : Nat) : Room := { frames := d + 1, cells := kc, slots := ks, locals := 60 * d + 100 }
def pMt (d kc ks : Nat) (z : MethodName) (as : List Value) (M : pM) (Q : pQ) : Prop :=
  ∃ (cc : ByteArray) (mL : Nat) (rt : Option FieldType), Cond.code z cc mL rt ∈ lw_tbl ∧ mL ≤ 30 ∧ (z.name = "<init>" → rt = none) ∧ ∀ (l : Launch) (X : pX), Met l z [Cond.code z cc mL rt] (pRm d kc ks) (pPc X as M) (pQc X Q) kc ks (fun q => X.2.2.1.size ≤ q)
theorem pPc_blind (X : pX) (as : List Value) (M : pM) : FrameBlind (pPc X as M) := fun a U g mk q => ⟨q.1, (q.2).warm (u := U) (U := U.calling g mk a) (State.WarmedH.refl U)⟩
theorem pRet_map (X : pX) (r : Option Value) (st : List Value) : (r.map (pTv X)).toList ++ st.map (pTv X) = (r.toList ++ st).map (pTv X) := by cases r <;> rfl
section SNE
variable {p : Program} {l : Launch} {e : Env} {R : Room} {s : State} {m : MethodId} {args : Array Value} {below : List Frame} {meth : Method} {c : Code} {Qw : State → Prop} {X : pX} {d cx sx : Nat} {C : pCt} {Q : pQ} {y : MethodName} {cc : ByteArray} {rt : Option FieldType}
/-- what follows a call -/
theorem sn_after {M : pM} {H : Heap} {arr : Array Slot} {locs : List Loc} {cells slots kc ks kc2 ks2 pc : Nat} {ls : pL} {st : List Value} {st0 : List Value} {Q2 : pQ} {a : Array Value} (hW : pW X M s H) (hL : pLr X ls arr) (hz : ls.length = c.maxLocals) (hl : ∀ q ∈ locs, X.2.2.1.size ≤ q.base) (hc : cells + (kc + kc2) ≤ cx) (hs : slots + (ks + ks2) ≤ sx)
    (hr : va_Run p l e R s m args below meth c H locs cells slots kc2 ks2 (F0 m pc arr st0) (st.map (pTv X)) (pQc X Q2 a) (fun q => X.2.2.1.size ≤ q))
    (g : ∀ (r : Option Value) (M2 : pM), Q2 r M2 → pG p l e R s m args below meth c Qw X cx sx kc ks (pc + 3) ls (r.toList ++ st) M2) : W p l e R s m args below meth c H locs cells slots Qw (F0 m pc arr st0) := by
  intro T hT XS
  obtain ⟨v, s0, t, T', L, h0, X', hL2, e1, e2, ⟨r, M2, hv, hq, hw2⟩, stp⟩ := hr T hT XS
  have hv2 : v = r.map (pTv X) := by injection hv
  subst hv2
  have hal : t.vm.Alike s.vm := by rw [← e2]; exact X'.warmed.alike.symm
  have hw3 : pW X M2 s T'.heap := by rw [e1]; exact hw2.alike hW.1 hal
  obtain ⟨t2, a1, b1⟩ := g r M2 hq T'.heap arr (locs ++ L) (cells + kc2) (slots + ks2) hw3 hL hz (fun q hq => (List.mem_append.mp hq).elim (hl q) (hL2 q)) (by omega) (by omega) T' rfl X'
  rw [← pRet_map] at a1
  exact ⟨t2, stp t2 a1, b1⟩
theorem sn_invV (E : pE p R s m meth c d cx sx y cc) (hC : ∀ kc ks z as M Q, C kc ks z as M Q → pMt d kc ks z as M Q) : pr_invV C Q y cc rt (pG p l e R s m args below meth c Qw X cx sx) := by
  intro kc ks pc ls M st idx n kc2 ks2 as z Q2 a ci hd hV hK has hst hcall g H arr locs cells slots hW hL hz hl hc hs
  obtain ⟨hx, hb, hown, hnm, hcx, hsx, hfr, hlo⟩ := E
  obtain ⟨cc2, mL, rt2, hcode, hmL, -, hM⟩ := hC _ _ _ _ _ _ hcall
  obtain ⟨hlk, ⟨n1, n2, n3, n4⟩, hinst, hsel, T, N, hcl⟩ := hV
  have hlen : ∀ sig, parseMethodDescriptor z.desc = some sig → n = sig.parameters.length := fun sig h => by rw [h] at n3; exact (Option.some.inj n3).symm
  have hws : ∀ w ∈ [Cond.code z cc2 mL rt2], ∀ (a' : Array Value) (U : State), s.WarmedH U.vm → w.before a' U = true := fun w hw a' U hwm => by
    rw [List.mem_singleton.mp hw]
    exact (hW.1.warm hwm).use hcode rfl a'
  obtain ⟨q, hq, cell, q1, q2, q3, q4⟩ := (hW.2.2.2.2.2.2 a).1 ci hK
  have hqe : q = (z.cls, T, N) := Option.some.inj (hq.symm.trans hcl)
  subst hqe
  have hKn := hW.2.1 ci _ hcl
  have hcell : ∃ cellB : Cell, H[pAd X a]? = some cellB ∧ cellB.vm.isStatics = false ∧ s.vm.findClass z.cls = some cellB.cls := ⟨cell, q1, by rw [q3]; rfl, by rw [q2]; exact hKn.2.1⟩
  have hpre : PreV s H z.cls (pAd X a) (pPc X (.ref a :: as) M) (as.map (pTv X)) := ⟨pPc_blind X _ M, hcell, fun U hU hwm => ⟨rfl, by rw [hU]; exact hW.warm hwm⟩⟩
  have hF : CallFix p m c cc c.maxLocals s args ([] : List Cond) y.cls := ⟨hx, hb, rfl, hown, fun w h => by cases h⟩
  have hfull : (as.reverse ++ .ref a :: st).map (pTv X) = (as.map (pTv X)).reverse ++ .ref (pAd X a) :: st.map (pTv X) := by simp [List.map_append, List.map_reverse, pTv]
  have hroom : 2 * 0 + ((st.map (pTv X)).map fun v => v.category).sum ≤ 8 := by rw [pCat_eq]; omega
  have hsz : arr.size = c.maxLocals := by rw [hL.1]; exact hz
  rw [hfull]
  refine sn_after (a := (Value.ref (pAd X a) :: as.map (pTv X)).toArray) hW hL hz hl hc hs ?_ g
  rcases hlk with hlk | ⟨hh, hlk⟩
  · exact va_runV (n := n) hF (hM l X) ⟨⟨rfl, rfl, by show d + 1 + 1 ≤ _; omega, by show 8 + (mL + 11) + (60 * d + 100) ≤ _; omega, hws, List.mem_singleton.mpr rfl, hW.1.use hcode rfl args, hW.1.use n4 rfl args, ⟨n1, n2⟩, hlen, hW.1.use hlk rfl args⟩, hW.1.use hinst rfl args, hW.1.use hsel rfl args⟩ hpre rfl (by rw [List.length_map]; exact has) hsz rfl hroom hd ⟨by omega, by omega⟩
  · exact va_runVN (n := n) hF (hM l X) ⟨⟨⟨rfl, rfl, by show d + 1 + 1 ≤ _; omega, by show 8 + (mL + 11) + (60 * d + 100) ≤ _; omega, hws, List.mem_singleton.mpr rfl⟩, hW.1.use hcode rfl args, hW.1.use n4 rfl args, ⟨n1, n2⟩, hlen, hW.1.use hlk rfl args⟩, hW.1.use hinst rfl args, hW.1.use hsel rfl args⟩ hpre rfl (by rw [List.length_map]; exact has) hsz rfl hroom hd ⟨by omega, by omega⟩
theorem sn_invI (E : pE p R s m meth c d cx sx y cc) (hC : ∀ kc ks z as M Q, C kc ks z as M Q → pMt d kc ks z as M Q) : pr_invI C Q y cc rt (pG p l e R s m args below meth c Qw X cx sx) := by
  intro kc ks pc ls M st idx n kc2 ks2 as z Q2 a hd hV has hst hcall g H arr locs cells slots hW hL hz hl hc hs
  obtain ⟨hx, hb, hown, hnm, hcx, hsx, hfr, hlo⟩ := E
  obtain ⟨hlk, ⟨n1, n2, n3, n4⟩, hinst, hini⟩ := hV
  obtain ⟨cc2, mL, rt2, hcode, hmL, hrt, hM⟩ := hC _ _ _ _ _ _ hcall
  obtain rfl := hrt hini
  have hlen : ∀ sig, parseMethodDescriptor z.desc = some sig → n = sig.parameters.length := fun sig h => by rw [h] at n3; exact (Option.some.inj n3).symm
  have hws : ∀ w ∈ [Cond.code z cc2 mL none], ∀ (a' : Array Value) (U : State), s.WarmedH U.vm → w.before a' U = true := fun w hw a' U hwm => by
    rw [List.mem_singleton.mp hw]
    exact (hW.1.warm hwm).use hcode rfl a'
  have hpre : PreS s H (pPc X (.ref a :: as) M) (.ref (pAd X a) :: as.map (pTv X)) := ⟨pPc_blind X _ M, fun U hU hwm => ⟨rfl, by rw [hU]; exact hW.warm hwm⟩⟩
  have hF : CallFix p m c cc c.maxLocals s args ([] : List Cond) y.cls := ⟨hx, hb, rfl, hown, fun w h => by cases h⟩
  have hfull : (as.reverse ++ .ref a :: st).map (pTv X) = (as.map (pTv X)).reverse ++ .ref (pAd X a) :: st.map (pTv X) := by simp [List.map_append, List.map_reverse, pTv]
  have hroom : 2 * 0 + ((st.map (pTv X)).map fun v => v.category).sum ≤ 8 := by rw [pCat_eq]; omega
  have hsz : arr.size = c.maxLocals := by rw [hL.1]; exact hz
  rw [hfull]
  refine sn_after (a := (Value.ref (pAd X a) :: as.map (pTv X)).toArray) hW hL hz hl hc hs ?_ g
  rcases hlk with hlk | ⟨hh, hlk⟩
  · exact va_runI (n := n) hF (hM l X) ⟨⟨rfl, rfl, by show d + 1 + 1 ≤ _; omega, by show 8 + (mL + 11) + (60 * d + 100) ≤ _; omega, hws, List.mem_singleton.mpr rfl, hW.1.use hcode rfl args, hW.1.use n4 rfl args, ⟨n1, n2⟩, hlen, hW.1.use hlk rfl args⟩, hini, hW.1.use hinst rfl args⟩ hpre rfl (by rw [List.length_map]; exact has) hsz rfl hroom hd ⟨by omega, by omega⟩
  · exact va_runIN (n := n) hF (hM l X) ⟨⟨⟨rfl, rfl, by show d + 1 + 1 ≤ _; omega, by show 8 + (mL + 11) + (60 * d + 100) ≤ _; omega, hws, List.mem_singleton.mpr rfl⟩, hW.1.use hcode rfl args, hW.1.use n4 rfl args, ⟨n1, n2⟩, hlen, hW.1.use hlk rfl args⟩, hini, hW.1.use hinst rfl args⟩ hpre rfl (by rw [List.length_map]; exact has) hsz rfl hroom hd ⟨by omega, by omega⟩
theorem sn_invS (E : pE p R s m meth c d cx sx y cc) (hC : ∀ kc ks z as M Q, C kc ks z as M Q → pMt d kc ks z as M Q) : pr_invS C Q y cc rt (pG p l e R s m args below meth c Qw X cx sx) := by
  intro kc ks pc ls M st idx n kc2 ks2 as z Q2 hd hV has hst hcall g H arr locs cells slots hW hL hz hl hc hs
  obtain ⟨hx, hb, hown, hnm, hcx, hsx, hfr, hlo⟩ := E
  obtain ⟨hlk, ⟨n1, n2, n3, n4⟩, hstat⟩ := hV
  obtain ⟨cc2, mL, rt2, hcode, hmL, -, hM⟩ := hC _ _ _ _ _ _ hcall
  have hlen : ∀ sig, parseMethodDescriptor z.desc = some sig → n = sig.parameters.length := fun sig h => by rw [h] at n3; exact (Option.some.inj n3).symm
  have hws : ∀ w ∈ [Cond.code z cc2 mL rt2], ∀ (a' : Array Value) (U : State), s.WarmedH U.vm → w.before a' U = true := fun w hw a' U hwm => by
    rw [List.mem_singleton.mp hw]
    exact (hW.1.warm hwm).use hcode rfl a'
  have hpre : PreS s H (pPc X as M) (as.map (pTv X)) := ⟨pPc_blind X _ M, fun U hU hwm => ⟨rfl, by rw [hU]; exact hW.warm hwm⟩⟩
  have hF : CallFix p m c cc c.maxLocals s args ([] : List Cond) y.cls := ⟨hx, hb, rfl, hown, fun w h => by cases h⟩
  have hfull : (as.reverse ++ st).map (pTv X) = (as.map (pTv X)).reverse ++ st.map (pTv X) := by simp [List.map_append, List.map_reverse]
  have hroom : 2 * 0 + ((st.map (pTv X)).map fun v => v.category).sum ≤ 8 := by rw [pCat_eq]; omega
  have hsz : arr.size = c.maxLocals := by rw [hL.1]; exact hz
  rw [hfull]
  refine sn_after (a := (as.map (pTv X)).toArray) hW hL hz hl hc hs ?_ g
  rcases hlk with hlk | ⟨hh, hlk⟩
  · exact va_runS (n := n) hF (hM l X) ⟨⟨rfl, rfl, by show d + 1 + 1 ≤ _; omega, by show 8 + (mL + 11) + (60 * d + 100) ≤ _; omega, hws, List.mem_singleton.mpr rfl, hW.1.use hcode rfl args, hW.1.use n4 rfl args, ⟨n1, n2⟩, hlen, hW.1.use hlk rfl args⟩, hW.1.use hstat rfl args⟩ hpre rfl (by rw [List.length_map]; exact has) hsz rfl hroom hd ⟨by omega, by omega⟩
  · exact va_runSN (n := n) hF (hM l X) ⟨⟨⟨rfl, rfl, by show d + 1 + 1 ≤ _; omega, by show 8 + (mL + 11) + (60 * d + 100) ≤ _; omega, hws, List.mem_singleton.mpr rfl⟩, hW.1.use hcode rfl args, hW.1.use n4 rfl args, ⟨n1, n2⟩, hlen, hW.1.use hlk rfl args⟩, hW.1.use hstat rfl args, trivial⟩ hpre rfl (by rw [List.length_map]; exact has) hsz rfl hroom hd ⟨by omega, by omega⟩
/-! returns -/
def pRt (cc : ByteArray) (rt : Option FieldType) (pc : Nat) (r : Option Value) : Prop :=
  (∃ x, r = some (.int x) ∧ decode cc pc = .ok (.ireturn, 1) ∧ (rt = some .int ∨ (rt = some .boolean ∧ (x = 0 ∨ x = 1)))) ∨ (∃ x, r = some (.long x) ∧ decode cc pc = .ok (.lreturn, 1) ∧ rt = some .long) ∨ (∃ a nm, r = some (.ref a) ∧ decode cc pc = .ok (.areturn, 1) ∧ rt = some (.object nm)) ∨ (r = none ∧ decode cc pc = .ok (.return_, 1) ∧ rt = none)
def pEnd (p : Program) (l : Launch) (e : Env) (R : Room) (s : State) (m : MethodId) (args : Array Value) (below : List Frame) (meth : Method) (c : Code) (Qw : State → Prop) (X : pX) (cx sx : Nat) (Q : pQ) (cc : ByteArray) (rt : Option FieldType) : Prop :=
  ∀ (r : Option Value) (M : pM) (H : Heap) (arr : Array Slot) (locs : List Loc) (cells slots pc : Nat), Q r M → pW X M s H → (∀ q ∈ locs, X.2.2.1.size ≤ q.base) → cells ≤ cx → slots ≤ sx → pRt cc rt pc r → W p l e R s m args below meth c H locs cells slots Qw (F0 m pc arr (r.map (pTv X)).toList)
theorem sn_all (E : pE p R s m meth c d cx sx y cc) (hC : ∀ kc ks z as M Q, C kc ks z as M Q → pMt d kc ks z as M Q) (hE : pEnd p l e R s m args below meth c Qw X cx sx Q cc rt) : pCl C Q y cc rt (pG p l e R s m args below meth c Qw X cx sx) := by
  refine ⟨sn_push E, sn_load E, sn_store E, sn_iinc E, sn_op1 E, sn_op2 E, sn_op3 E, sn_if0 E, sn_if2 E, sn_goto E, sn_tabOut E, sn_tabIn E, sn_getI E, sn_getJ E, sn_getR E, sn_putI E, sn_putJ E, sn_putR E, sn_alen E, sn_iald E, sn_bald E, sn_lald E, sn_aald E, sn_iast E, sn_bast E, sn_last E, sn_aast E, sn_new E, sn_newa E, sn_anew E, sn_oini E, sn_cpI E, sn_cpJ E, sn_invV E hC, sn_invI E hC, sn_invS E hC, ?_, ?_, ?_, ?_⟩
  · intro kc ks pc ls M x hd hr hq H arr locs cells slots hW hL hz hl hc hs
    exact hE _ M H arr locs cells slots pc hq hW hl (by omega) (by omega) (Or.inl ⟨x, rfl, hd, hr⟩)
  · intro kc ks pc ls M x hd hr hq H arr locs cells slots hW hL hz hl hc hs
    exact hE _ M H arr locs cells slots pc hq hW hl (by omega) (by omega) (Or.inr (Or.inl ⟨x, rfl, hd, hr⟩))
  · intro kc ks pc ls M a nm hd hr hq H arr locs cells slots hW hL hz hl hc hs
    exact hE _ M H arr locs cells slots pc hq hW hl (by omega) (by omega) (Or.inr (Or.inr (Or.inl ⟨a, nm, rfl, hd, hr⟩)))
  · intro kc ks pc ls M hd hr hq H arr locs cells slots hW hL hz hl hc hs
    exact hE _ M H arr locs cells slots pc hq hW hl (by omega) (by omega) (Or.inr (Or.inr (Or.inr ⟨rfl, hd, hr⟩)))
end SNE
