/-! the machine follows: with the text, with what a throw needs -/
def xNs : String := "java/util/NoSuchElementException"
def xTx : String := "left right cross gate trap sieve counter cog seesaw put again mirror let use lane hopper by"
def xDs : List String := ["java/lang/RuntimeException", "java/lang/Exception", "java/lang/Throwable"]
def xA (X : pX) : Nat → Prop := fun q => X.2.2.1.size ≤ q
/-- what the start says of the heap that was there before (its text's bytes lie in adV) -/
def pTa (X : pX) (adV : Nat) (U : State) : Prop :=
  vk_R RX8 29 xTx X.2.1 U ∧ vk_S 1 [91] [txB] (fun _ => X.2.1) (fun _ => adV) (xA X) U X.2.2.1 ∧ va_Z "java/lang/String" "COMPACT_STRINGS" "Z" (.int 1) (xA X) U X.2.2.1 ∧ va_Zq "jdk/internal/util/Preconditions" "SIOOBE_FORMATTER" "Ljava/util/function/BiFunction;" (xA X) U X.2.2.1 ∧ vx_Zq Bundle.tN "UNASSIGNED_STACK" Bundle.steD (xA X) U X.2.2.1 ∧ vx_Zq Bundle.tN "SUPPRESSED_SENTINEL" Bundle.listD (xA X) U X.2.2.1 ∧ va_Nw (.castable xNs xNs) U ∧ ∀ Y ∈ xDs, va_Nw (.declares ⟨Y, "<init>", "()V"⟩) U
def pTx (X : pX) (U : State) : Prop := ∃ adV, pTa X adV U
theorem pTa.warm {X : pX} {adV : Nat} {u U : State} (hW : u.WarmedH U.vm) (h : pTa X adV u) : pTa X adV U := by
  obtain ⟨h1, h2, h3, h4, h5, h6, h7, h8⟩ := h
  exact ⟨h1.warm hW, vk_S.moved hW.alike h2, va_Z.moved hW.alike h3, va_Zq.moved hW.alike h4, vx_Zq.moved hW.alike h5, vx_Zq.moved hW.alike h6, va_Nw.warmC hW h7, fun Y hY => va_Nw.warmD hW (h8 Y hY)⟩
theorem pTx.warm {X : pX} {u U : State} (hW : u.WarmedH U.vm) (h : pTx X u) : pTx X U := by
  obtain ⟨a, h⟩ := h
  exact ⟨a, h.warm hW⟩
/-- the heap that was there before is as it was -/
theorem pW.base {X : pX} {M : pM} {U : State} {H : Heap} (h : pW X M U H) : ∀ a : Nat, a < X.2.2.1.size → ¬ xA X a → H[a]? = X.2.2.1[a]? := fun a ha _ => h.2.2.2.2.2.1 a ha
def pPx (X : pX) (as : List Value) (M : pM) : Array Value → State → Prop := fun v U => pPc X as M v U ∧ pTx X U
theorem pPx_blind (X : pX) (as : List Value) (M : pM) : FrameBlind (pPx X as M) := fun a U g mk q => ⟨pPc_blind X as M a U g mk q.1, q.2.warm (u := U) (U := U.calling g mk a) (State.WarmedH.refl U)⟩
def pMz (l : Launch) (X : pX) (d : Nat) : pCt := fun kc ks z as M Q =>
  ∃ (cc : ByteArray) (mL : Nat) (rt : Option FieldType), Cond.code z cc mL rt ∈ lw_tbl ∧ mL ≤ 30 ∧ (z.name = "<init>" → rt = none) ∧ Met l z [Cond.code z cc mL rt] (pRm d kc ks) (pPx X as M) (pQc X Q) kc ks (fun q => X.2.2.1.size ≤ q)
theorem pMt.z {l : Launch} {X : pX} {d kc ks : Nat} {z : MethodName} {as : List Value} {M : pM} {Q : pQ} (h : pMt d kc ks z as M Q) : pMz l X d kc ks z as M Q := by
  obtain ⟨cc, mL, rt, h1, h2, h3, h4⟩ := h
  exact ⟨cc, mL, rt, h1, h2, h3, fun p e a1 a2 a3 s m args below a4 a5 a6 a7 => h4 l X p e a1 a2 a3 s m args below a4 a5 a6.1 a7⟩
section SZE
variable {p : Program} {l : Launch} {e : Env} {R : Room} {s : State} {m : MethodId} {args : Array Value} {below : List Frame} {meth : Method} {c : Code} {Qw : State → Prop} {X : pX} {d cx sx : Nat} {C : pCt} {Q : pQ} {y : MethodName} {cc : ByteArray} {rt : Option FieldType}
theorem sz_invV (E : pE p R s m meth c d cx sx y cc) (hT : pTx X s) (hC : ∀ kc ks z as M Q, C kc ks z as M Q → pMz l X d kc ks z as M Q) : pr_invV C Q y cc rt (pG p l e R s m args below meth c Qw X cx sx) := by
  intro kc ks pc ls M st idx n kc2 ks2 as z Q2 a ci hd hV hK has hst hcall g H arr locs cells slots hW hL hz hl hc hs
  obtain ⟨hx, hb, hown, hnm, hcx, hsx, hfr, hlo⟩ := E
  obtain ⟨cc2, mL, rt2, hcode, hmL, -, hM⟩ := hC _ _ _ _ _ _ hcall
  obtain ⟨hlk, ⟨n1, n2, n3, n4⟩, hinst, hsel, T, N, hcl⟩ := hV
  have hlen : ∀ sig, parseMethodDescriptor z.desc = some sig → n = sig.parameters.length := fun sig h => by rw [h] at n3; exact (Option.some.inj n3).symm
  have hws : ∀ w ∈ [Cond.code z cc2 mL rt2], ∀ (a' : Array Value) (U : State), s.WarmedH U.vm → w.before a' U = true := fun w hw a' U hwm => by
    rw [List.mem_singleton.mp hw]
    exact (hW.1.warm hwm).use hcode rfl a'
  obtain ⟨q, hq, cell, q1, q2, q3, q4⟩ := (hW.2.2.2.2.2.2 a).1 ci hK
  have hqe : q = (z.cls, T, N) := Option.some.inj (hq.symm.trans hcl)
  subst hqe
  have hKn := hW.2.1 ci _ hcl
  have hcell : ∃ cellB : Cell, H[pAd X a]? = some cellB ∧ cellB.vm.isStatics = false ∧ s.vm.findClass z.cls = some cellB.cls := ⟨cell, q1, by rw [q3]; rfl, by rw [q2]; exact hKn.2.1⟩
  have hpre : PreV s H z.cls (pAd X a) (pPx X (.ref a :: as) M) (as.map (pTv X)) := ⟨pPx_blind X _ M, hcell, fun U hU hwm => ⟨⟨rfl, by rw [hU]; exact hW.warm hwm⟩, hT.warm hwm⟩⟩
  have hF : CallFix p m c cc c.maxLocals s args ([] : List Cond) y.cls := ⟨hx, hb, rfl, hown, fun w h => by cases h⟩
  have hfull : (as.reverse ++ .ref a :: st).map (pTv X) = (as.map (pTv X)).reverse ++ .ref (pAd X a) :: st.map (pTv X) := by simp [List.map_append, List.map_reverse, pTv]
  have hroom : 2 * 0 + ((st.map (pTv X)).map fun v => v.category).sum ≤ 8 := by rw [pCat_eq]; omega
  have hsz : arr.size = c.maxLocals := by rw [hL.1]; exact hz
  rw [hfull]
  refine sn_after (a := (Value.ref (pAd X a) :: as.map (pTv X)).toArray) hW hL hz hl hc hs ?_ g
  rcases hlk with hlk | ⟨hh, hlk⟩
  · exact va_runV (n := n) hF hM ⟨⟨rfl, rfl, by show d + 1 + 1 ≤ _; omega, by show 8 + (mL + 11) + (60 * d + 100) ≤ _; omega, hws, List.mem_singleton.mpr rfl, hW.1.use hcode rfl args, hW.1.use n4 rfl args, ⟨n1, n2⟩, hlen, hW.1.use hlk rfl args⟩, hW.1.use hinst rfl args, hW.1.use hsel rfl args⟩ hpre rfl (by rw [List.length_map]; exact has) hsz rfl hroom hd ⟨by omega, by omega⟩
  · exact va_runVN (n := n) hF hM ⟨⟨⟨rfl, rfl, by show d + 1 + 1 ≤ _; omega, by show 8 + (mL + 11) + (60 * d + 100) ≤ _; omega, hws, List.mem_singleton.mpr rfl⟩, hW.1.use hcode rfl args, hW.1.use n4 rfl args, ⟨n1, n2⟩, hlen, hW.1.use hlk rfl args⟩, hW.1.use hinst rfl args, hW.1.use hsel rfl args⟩ hpre rfl (by rw [List.length_map]; exact has) hsz rfl hroom hd ⟨by omega, by omega⟩
theorem sz_invI (E : pE p R s m meth c d cx sx y cc) (hT : pTx X s) (hC : ∀ kc ks z as M Q, C kc ks z as M Q → pMz l X d kc ks z as M Q) : pr_invI C Q y cc rt (pG p l e R s m args below meth c Qw X cx sx) := by
  intro kc ks pc ls M st idx n kc2 ks2 as z Q2 a hd hV has hst hcall g H arr locs cells slots hW hL hz hl hc hs
  obtain ⟨hx, hb, hown, hnm, hcx, hsx, hfr, hlo⟩ := E
  obtain ⟨hlk, ⟨n1, n2, n3, n4⟩, hinst, hini⟩ := hV
  obtain ⟨cc2, mL, rt2, hcode, hmL, hrt, hM⟩ := hC _ _ _ _ _ _ hcall
  obtain rfl := hrt hini
  have hlen : ∀ sig, parseMethodDescriptor z.desc = some sig → n = sig.parameters.length := fun sig h => by rw [h] at n3; exact (Option.some.inj n3).symm
  have hws : ∀ w ∈ [Cond.code z cc2 mL none], ∀ (a' : Array Value) (U : State), s.WarmedH U.vm → w.before a' U = true := fun w hw a' U hwm => by
    rw [List.mem_singleton.mp hw]
    exact (hW.1.warm hwm).use hcode rfl a'
  have hpre : PreS s H (pPx X (.ref a :: as) M) (.ref (pAd X a) :: as.map (pTv X)) := ⟨pPx_blind X _ M, fun U hU hwm => ⟨⟨rfl, by rw [hU]; exact hW.warm hwm⟩, hT.warm hwm⟩⟩
  have hF : CallFix p m c cc c.maxLocals s args ([] : List Cond) y.cls := ⟨hx, hb, rfl, hown, fun w h => by cases h⟩
  have hfull : (as.reverse ++ .ref a :: st).map (pTv X) = (as.map (pTv X)).reverse ++ .ref (pAd X a) :: st.map (pTv X) := by simp [List.map_append, List.map_reverse, pTv]
  have hroom : 2 * 0 + ((st.map (pTv X)).map fun v => v.category).sum ≤ 8 := by rw [pCat_eq]; omega
  have hsz : arr.size = c.maxLocals := by rw [hL.1]; exact hz
  rw [hfull]
  refine sn_after (a := (Value.ref (pAd X a) :: as.map (pTv X)).toArray) hW hL hz hl hc hs ?_ g
  rcases hlk with hlk | ⟨hh, hlk⟩
  · exact va_runI (n := n) hF hM ⟨⟨rfl, rfl, by show d + 1 + 1 ≤ _; omega, by show 8 + (mL + 11) + (60 * d + 100) ≤ _; omega, hws, List.mem_singleton.mpr rfl, hW.1.use hcode rfl args, hW.1.use n4 rfl args, ⟨n1, n2⟩, hlen, hW.1.use hlk rfl args⟩, hini, hW.1.use hinst rfl args⟩ hpre rfl (by rw [List.length_map]; exact has) hsz rfl hroom hd ⟨by omega, by omega⟩
  · exact va_runIN (n := n) hF hM ⟨⟨⟨rfl, rfl, by show d + 1 + 1 ≤ _; omega, by show 8 + (mL + 11) + (60 * d + 100) ≤ _; omega, hws, List.mem_singleton.mpr rfl⟩, hW.1.use hcode rfl args, hW.1.use n4 rfl args, ⟨n1, n2⟩, hlen, hW.1.use hlk rfl args⟩, hini, hW.1.use hinst rfl args⟩ hpre rfl (by rw [List.length_map]; exact has) hsz rfl hroom hd ⟨by omega, by omega⟩
theorem sz_invS (E : pE p R s m meth c d cx sx y cc) (hT : pTx X s) (hC : ∀ kc ks z as M Q, C kc ks z as M Q → pMz l X d kc ks z as M Q) : pr_invS C Q y cc rt (pG p l e R s m args below meth c Qw X cx sx) := by
  intro kc ks pc ls M st idx n kc2 ks2 as z Q2 hd hV has hst hcall g H arr locs cells slots hW hL hz hl hc hs
  obtain ⟨hx, hb, hown, hnm, hcx, hsx, hfr, hlo⟩ := E
  obtain ⟨hlk, ⟨n1, n2, n3, n4⟩, hstat⟩ := hV
  obtain ⟨cc2, mL, rt2, hcode, hmL, -, hM⟩ := hC _ _ _ _ _ _ hcall
  have hlen : ∀ sig, parseMethodDescriptor z.desc = some sig → n = sig.parameters.length := fun sig h => by rw [h] at n3; exact (Option.some.inj n3).symm
  have hws : ∀ w ∈ [Cond.code z cc2 mL rt2], ∀ (a' : Array Value) (U : State), s.WarmedH U.vm → w.before a' U = true := fun w hw a' U hwm => by
    rw [List.mem_singleton.mp hw]
    exact (hW.1.warm hwm).use hcode rfl a'
  have hpre : PreS s H (pPx X as M) (as.map (pTv X)) := ⟨pPx_blind X _ M, fun U hU hwm => ⟨⟨rfl, by rw [hU]; exact hW.warm hwm⟩, hT.warm hwm⟩⟩
  have hF : CallFix p m c cc c.maxLocals s args ([] : List Cond) y.cls := ⟨hx, hb, rfl, hown, fun w h => by cases h⟩
  have hfull : (as.reverse ++ st).map (pTv X) = (as.map (pTv X)).reverse ++ st.map (pTv X) := by simp [List.map_append, List.map_reverse]
  have hroom : 2 * 0 + ((st.map (pTv X)).map fun v => v.category).sum ≤ 8 := by rw [pCat_eq]; omega
  have hsz : arr.size = c.maxLocals := by rw [hL.1]; exact hz
  rw [hfull]
  refine sn_after (a := (as.map (pTv X)).toArray) hW hL hz hl hc hs ?_ g
  rcases hlk with hlk | ⟨hh, hlk⟩
  · exact va_runS (n := n) hF hM ⟨⟨rfl, rfl, by show d + 1 + 1 ≤ _; omega, by show 8 + (mL + 11) + (60 * d + 100) ≤ _; omega, hws, List.mem_singleton.mpr rfl, hW.1.use hcode rfl args, hW.1.use n4 rfl args, ⟨n1, n2⟩, hlen, hW.1.use hlk rfl args⟩, hW.1.use hstat rfl args⟩ hpre rfl (by rw [List.length_map]; exact has) hsz rfl hroom hd ⟨by omega, by omega⟩
  · exact va_runSN (n := n) hF hM ⟨⟨⟨rfl, rfl, by show d + 1 + 1 ≤ _; omega, by show 8 + (mL + 11) + (60 * d + 100) ≤ _; omega, hws, List.mem_singleton.mpr rfl⟩, hW.1.use hcode rfl args, hW.1.use n4 rfl args, ⟨n1, n2⟩, hlen, hW.1.use hlk rfl args⟩, hW.1.use hstat rfl args, trivial⟩ hpre rfl (by rw [List.length_map]; exact has) hsz rfl hroom hd ⟨by omega, by omega⟩
theorem sz_all (E : pE p R s m meth c d cx sx y cc) (hT : pTx X s) (hC : ∀ kc ks z as M Q, C kc ks z as M Q → pMz l X d kc ks z as M Q) (hE : pEnd p l e R s m args below meth c Qw X cx sx Q cc rt) : pCl C Q y cc rt (pG p l e R s m args below meth c Qw X cx sx) := by
  obtain ⟨h1, h2, h3, h4, h5, h6, h7, h8, h9, h10, h11, h12, h13, h14, h15, h16, h17, h18, h19, h20, h21, h22, h23, h24, h25, h26, h27, h28, h29, h30, h31, h32, h33, h34, h35, h36, h37, h38, h39, h40⟩ := sn_all (C := fun _ _ _ _ _ _ => False) E (fun _ _ _ _ _ _ h => h.elim) hE
  exact ⟨h1, h2, h3, h4, h5, h6, h7, h8, h9, h10, h11, h12, h13, h14, h15, h16, h17, h18, h19, h20, h21, h22, h23, h24, h25, h26, h27, h28, h29, h30, h31, h32, h33, sz_invV E hT hC, sz_invI E hT hC, sz_invS E hT hC, h37, h38, h39, h40⟩
end SZE
/-- the end of a method -/
theorem sz_end {p : Program} {l : Launch} {e : Env} {s : State} {m : MethodId} {below : List Frame} {meth : Method} {c : Code} {d kc ks : Nat} {cc : ByteArray} {rt : Option FieldType} {X : pX} {Q : pQ} {args : Array Value} (hx : p.tables.exec = Jvm.exec) (hb : c.code = cc) (hr : meth.sig.returnType = rt) (hlocks : meth.locks = false) : pEnd p l e (pRm d kc ks) s m args below meth c (MQ below (pQc X Q) args s kc ks (fun q => X.2.2.1.size ≤ q)) X kc ks Q cc rt := by
  intro r M2 H arr locs cells slots pc hq hw hl hc hs hrt
  refine W.widen (k := kc) (n := ks) hc hs ?_
  have hQ : ∀ t : State, t.heap = H → s.WarmedH t.vm → pQc X Q args s (.returned (r.map (pTv X))) t := fun t ht hwm => ⟨r, M2, rfl, hq, by rw [ht]; exact hw.warm hwm⟩
  rcases hrt with ⟨x, rfl, hd, hrt | ⟨hrt, hx2⟩⟩ | ⟨x, rfl, hd, hrt⟩ | ⟨a, nm, rfl, hd, hrt⟩ | ⟨rfl, hd, hrt⟩
  · exact W.iret hx hb (by rw [hr, hrt]) hQ hl hd
  · exact W.zret (ty := .boolean) hx hb (by rw [hr, hrt]) (by rcases hx2 with rfl | rfl <;> rfl) hQ hl hd
  · exact W.lret hx hb (by rw [hr, hrt]) hQ hl hd
  · exact W.aret (rt := .object nm) hx hb (by rw [hr, hrt]) (Or.inl ⟨nm, rfl⟩) (Or.inr ⟨_, rfl⟩) hQ hl hd
  · exact W.vret hx hb (by rw [hr, hrt]) hQ hl hd
/-- a method out of its walk; more rules than pCl's may be used -/
theorem sz_met {l : Launch} {X : pX} {d kc ks : Nat} {z : MethodName} {cc : ByteArray} {mL : Nat} {rt : Option FieldType} {as : List Value} {M : pM} {Q : pQ} (hcode : Cond.code z cc mL rt ∈ lw_tbl) (hpl : plainFor z = true) (hmL : mL ≤ 30) (hlen : (pSls as).length ≤ mL) (hini : z.name = "<init>" → rt = none)
    (hgo : ∀ (p : Program) (e : Env) (s : State) (m : MethodId) (below : List Frame) (meth : Method) (c : Code), pE p (pRm (d + 1) kc ks) s m meth c d kc ks z cc → pTx X s → meth.sig.returnType = rt → meth.locks = false → pCl (pMz l X d) Q z cc rt (pG p l e (pRm (d + 1) kc ks) s m (as.map (pTv X)).toArray below meth c (MQ below (pQc X Q) (as.map (pTv X)).toArray s kc ks (fun q => X.2.2.1.size ≤ q)) X kc ks) →
      pG p l e (pRm (d + 1) kc ks) s m (as.map (pTv X)).toArray below meth c (MQ below (pQc X Q) (as.map (pTv X)).toArray s kc ks (fun q => X.2.2.1.size ≤ q)) X kc ks kc ks 0 (pEnt as mL) [] M) : pMz l X (d + 1) kc ks z as M Q := by
  refine ⟨cc, mL, rt, hcode, hmL, hini, ?_⟩
  refine va_MetF (cc := cc) (maxL := mL) (ret := rt) hpl rfl ?_
  intro p e s m args below meth c s₁ B hml hv
  obtain ⟨⟨rfl, hW⟩, hT⟩ := hv
  have E : pE p (pRm (d + 1) kc ks) s m meth c d kc ks z cc := ⟨B.exec, B.bytes, findClass_of_methodNamed B.named, fun hi => (name_of_methodNamed B.named B.method).1.trans hi, Nat.le_refl _, Nat.le_refl _, by show d + 2 ≤ d + 1 + 1; omega, by show 60 * d + 160 ≤ 60 * (d + 1) + 100; omega⟩
  have hG := hgo p e s m below meth c E hT B.returns B.notSynchronized (sz_all E hT (fun _ _ _ _ _ _ h => h) (sz_end B.exec B.bytes B.returns B.notSynchronized))
  have hle : (lg_sl (as.map (pTv X))).length ≤ mL := by rw [pSls_len]; exact hlen
  have hl := lv_entry (as.map (pTv X)) (n := mL) hle
  show W p l e (pRm (d + 1) kc ks) s m (as.map (pTv X)).toArray below meth c s.heap [] 0 0 _ (entryFrame m (as.map (pTv X)).toArray mL)
  rw [lg_entry_eq]
  exact hG s.heap _ [] 0 0 hW (pEnt_lr X hlen hl) (by rw [pEnt_len hlen, hml]) (fun q hq => by cases hq) (by omega) (by omega)
theorem pMz.le1 {l : Launch} {X : pX} {d kc ks : Nat} {z : MethodName} {as : List Value} {M : pM} {Q : pQ} (h : Ct d kc ks z as M Q) {d2 : Nat} (hd : d ≤ d2) : pMz l X d2 kc ks z as M Q := (sn_met _ _ _ _ _ _ _ (Ct_le hd h)).z
