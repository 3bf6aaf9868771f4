/-! the text's methods -/
section XA
variable {p : Program} {l : Launch} {e : Env} {R : Room} {s : State} {m : MethodId} {args : Array Value} {below : List Frame} {meth : Method} {c : Code} {H : Heap} {locs : List Loc} {cells slots : Nat} {Q : State → Prop} {cc : ByteArray} {pc : Nat} {ls : Array Slot} {rest : List Value} {A : Nat → Prop}
theorem xa_gets (hexec : p.tables.exec = Jvm.exec) (hb : c.code = cc) {C n d own ref : String} {v : Value} {index : Nat} (hZ : va_Z C n d v A s H) (hown : s.vm.findClass own = some m.cls) (hlink : (Cond.fieldLink own index ref n d).before args s = true) (hsame : ∀ x, s.fieldFound? C n d = some x → s.fieldFound? ref n d = some x) (hdg : decode cc pc = .ok (.getstatic index, 3))
    (kk : W p l e R s m args below meth c H locs cells slots Q (F0 m (pc + 3) ls (v :: rest))) : W p l e R s m args below meth c H locs cells slots Q (F0 m pc ls rest) := by
  obtain ⟨cf, kf, fi, f, a, cell, h1, h2, h3, h4, h5, h6, h7, h8⟩ := hZ
  exact W.gets hexec hb hown hlink (hsame _ h1) h2 h3 h4 h5 (fun e => by rw [e] at h6; cases h6) h7 rfl hdg kk
theorem xa_getf (hexec : p.tables.exec = Jvm.exec) (hb : c.code = cc) {o n d own ref : String} {index q : Nat} {v : Value} (hE : va_OF o n d v q A s H) (hown : s.vm.findClass own = some m.cls) (hlink : (Cond.fieldLink own index ref n d).before args s = true) (hsame : ∀ x, s.fieldFound? o n d = some x → s.fieldFound? ref n d = some x) (hdg : decode cc pc = .ok (.getfield index, 3))
    (kk : W p l e R s m args below meth c H locs cells slots Q (F0 m (pc + 3) ls (v :: rest))) : W p l e R s m args below meth c H locs cells slots Q (F0 m pc ls (.ref q :: rest)) := by
  obtain ⟨cf, k, fi, f, cell, h1, h2, h3, h4, h5, h6⟩ := hE
  exact W.getf hexec hb hown hlink (hsame _ h1) h2 h3 h4 (v := v) h5 rfl rfl hdg kk
theorem xa_tlen (hexec : p.tables.exec = Jvm.exec) (hb : c.code = cc) {ty : FieldType} {t N : Nat} {f : Nat → Value} (hT : va_T ty t N f A s H) {v : Int32} (hv : Int32.ofNat N = v) (hdg : decode cc pc = .ok (.arraylength, 1))
    (kk : W p l e R s m args below meth c H locs cells slots Q (F0 m (pc + 1) ls (.int v :: rest))) : W p l e R s m args below meth c H locs cells slots Q (F0 m pc ls (.ref t :: rest)) := by
  subst hv
  obtain ⟨cell, h1, h2, h3, h4, h5, h6, h7⟩ := hT
  exact W.alen (n := Int32.ofNat N) hexec hb h1 h2 h5 rfl rfl hdg kk
theorem xa_tb (hexec : p.tables.exec = Jvm.exec) (hb : c.code = cc) {t N : Nat} {f : Nat → Value} (hT : va_T .byte t N f A s H) {i : Int32} (hin : ¬ (i < 0 ∨ N ≤ i.toNatClampNeg)) {v : Value} (hv : f i.toNatClampNeg = v) (hdg : decode cc pc = .ok (.baload, 1))
    (kk : W p l e R s m args below meth c H locs cells slots Q (F0 m (pc + 1) ls (v :: rest))) : W p l e R s m args below meth c H locs cells slots Q (F0 m pc ls (.int i :: .ref t :: rest)) := by
  obtain ⟨cell, h1, h2, h3, h4, h5, h6, h7⟩ := hT
  have hlt : i.toNatClampNeg < N := Nat.not_le.mp fun q => hin (Or.inr q)
  have hin' : ¬ (i < 0 ∨ cell.slots.size ≤ i.toNatClampNeg) := by
    intro q
    rcases q with q | q
    · exact hin (Or.inl q)
    · omega
  exact W.bald (v := v) hexec hb h1 h2 h3 hin' (by rw [h6 _ hlt, hv]) rfl rfl hdg kk
end XA
section XB
variable {p : Program} {l : Launch} {e : Env} {R : Room} {s : State} {m : MethodId} {args : Array Value} {below : List Frame} {meth : Method} {c : Code} {Qw : State → Prop} {X : pX} {d cx sx : Nat} {Q : pQ} {y : MethodName} {cc : ByteArray} {rt : Option FieldType}
/-- what follows a call, the locals as they are -/
theorem sz_after2 {M : pM} {H : Heap} {arr : Array Slot} {locs : List Loc} {cells slots kc2 ks2 pc : Nat} {st : List Value} {st0 : List Value} {Q2 : pQ} {a : Array Value} (hW : pW X M s H) (hl : ∀ q ∈ locs, X.2.2.1.size ≤ q.base)
    (hr : va_Run p l e R s m args below meth c H locs cells slots kc2 ks2 (F0 m pc arr st0) (st.map (pTv X)) (pQc X Q2 a) (fun q => X.2.2.1.size ≤ q))
    (g : ∀ (r : Option Value) (M2 : pM) (H2 : Heap) (locs2 : List Loc), Q2 r M2 → pW X M2 s H2 → (∀ q ∈ locs2, X.2.2.1.size ≤ q.base) → W p l e R s m args below meth c H2 locs2 (cells + kc2) (slots + ks2) Qw (F0 m (pc + 3) arr ((r.toList ++ st).map (pTv X)))) : W p l e R s m args below meth c H locs cells slots Qw (F0 m pc arr st0) := by
  intro T hT XS
  obtain ⟨v, s0, t, T', L, h0, X', hL2, e1, e2, ⟨r, M2, hv, hq, hw2⟩, stp⟩ := hr T hT XS
  have hv2 : v = r.map (pTv X) := by injection hv
  subst hv2
  have hal : t.vm.Alike s.vm := by rw [← e2]; exact X'.warmed.alike.symm
  have hw3 : pW X M2 s T'.heap := by rw [e1]; exact hw2.alike hW.1 hal
  obtain ⟨t2, a1, b1⟩ := g r M2 T'.heap (locs ++ L) hq hw3 (fun q hq => (List.mem_append.mp hq).elim (hl q) (hL2 q)) T' rfl X'
  rw [← pRet_map] at a1
  exact ⟨t2, stp t2 a1, b1⟩
/-- a static call with any arguments -/
theorem sz_runS (E : pE p R s m meth c d cx sx y cc) {M : pM} {H : Heap} {arr : Array Slot} {locs : List Loc} {cells slots kc2 ks2 pc idx n mL : Nat} {cc2 : ByteArray} {rt2 : Option FieldType} {z : MethodName} {st As : List Value} {Q2 : pQ} {Pc : Array Value → State → Prop} (hW : pW X M s H) (hsz : arr.size = c.maxLocals) (hc : cells + kc2 ≤ cx) (hs : slots + ks2 ≤ sx) (hcode : Cond.code z cc2 mL rt2 ∈ lw_tbl) (hmL : mL ≤ 30) (hM : Met l z [Cond.code z cc2 mL rt2] (pRm d kc2 ks2) Pc (pQc X Q2) kc2 ks2 (fun q => X.2.2.1.size ≤ q)) (hbl : FrameBlind Pc) (hpre : ∀ U : State, U.heap = H → s.WarmedH U.vm → Pc As.toArray U) (hlk : Cond.methodLink y.cls idx z ∈ lw_tbl) (hnm : pNm z n) (hstat : Cond.static z ∈ lw_tbl) (hn : As.length = n) (hst : pCat st ≤ 8) (hd : decode cc pc = .ok (.invokestatic idx, 3)) :
    va_Run p l e R s m args below meth c H locs cells slots kc2 ks2 (F0 m pc arr (As.reverse ++ st.map (pTv X))) (st.map (pTv X)) (pQc X Q2 As.toArray) (fun q => X.2.2.1.size ≤ q) := by
  obtain ⟨hx, hb, hown, hnm2, hcx, hsx, hfr, hlo⟩ := E
  obtain ⟨n1, n2, n3, n4⟩ := hnm
  have hlen : ∀ sig, parseMethodDescriptor z.desc = some sig → n = sig.parameters.length := fun sig h => by rw [h] at n3; exact (Option.some.inj n3).symm
  have hws : ∀ w ∈ [Cond.code z cc2 mL rt2], ∀ (a' : Array Value) (U : State), s.WarmedH U.vm → w.before a' U = true := fun w hw a' U hwm => by
    rw [List.mem_singleton.mp hw]
    exact (hW.1.warm hwm).use hcode rfl a'
  have hF : CallFix p m c cc c.maxLocals s args ([] : List Cond) y.cls := ⟨hx, hb, rfl, hown, fun w h => by cases h⟩
  have hroom : 2 * 0 + ((st.map (pTv X)).map fun v => v.category).sum ≤ 8 := by rw [pCat_eq]; omega
  exact va_runS (n := n) hF hM ⟨⟨rfl, rfl, by show d + 1 + 1 ≤ _; omega, by show 8 + (mL + 11) + (60 * d + 100) ≤ _; omega, hws, List.mem_singleton.mpr rfl, hW.1.use hcode rfl args, hW.1.use n4 rfl args, ⟨n1, n2⟩, hlen, hW.1.use hlk rfl args⟩, hW.1.use hstat rfl args⟩ ⟨hbl, hpre⟩ rfl hn hsz rfl hroom hd ⟨by omega, by omega⟩
/-- a virtual call on the text -/
theorem sz_runT (E : pE p R s m meth c d cx sx y cc) {M : pM} {H : Heap} {arr : Array Slot} {locs : List Loc} {cells slots kc2 ks2 pc idx n mL : Nat} {cc2 : ByteArray} {rt2 : Option FieldType} {z : MethodName} {st As : List Value} {Q2 : pQ} {Pc : Array Value → State → Prop} (hT : pTx X s) (hW : pW X M s H) (hsz : arr.size = c.maxLocals) (hc : cells + kc2 ≤ cx) (hs : slots + ks2 ≤ sx) (hcls : z.cls = "java/lang/String") (hcode : Cond.code z cc2 mL rt2 ∈ lw_tbl) (hmL : mL ≤ 30) (hM : Met l z [Cond.code z cc2 mL rt2] (pRm d kc2 ks2) Pc (pQc X Q2) kc2 ks2 (fun q => X.2.2.1.size ≤ q)) (hbl : FrameBlind Pc) (hpre : ∀ U : State, U.heap = H → s.WarmedH U.vm → Pc (Value.ref X.2.1 :: As).toArray U) (hlk : Cond.methodLink y.cls idx z ∈ lw_tbl) (hnm : pNm z n) (hinst : Cond.instanceMethod z ∈ lw_tbl) (hsel : Cond.selects z.cls z z ∈ lw_tbl) (hn : As.length = n) (hst : pCat st ≤ 8) (hd : decode cc pc = .ok (.invokevirtual idx, 3)) :
    va_Run p l e R s m args below meth c H locs cells slots kc2 ks2 (F0 m pc arr (As.reverse ++ .ref X.2.1 :: st.map (pTv X))) (st.map (pTv X)) (pQc X Q2 (Value.ref X.2.1 :: As).toArray) (fun q => X.2.2.1.size ≤ q) := by
  obtain ⟨hx, hb, hown, hnm2, hcx, hsx, hfr, hlo⟩ := E
  obtain ⟨n1, n2, n3, n4⟩ := hnm
  obtain ⟨adV, hTa⟩ := hT
  have hlen : ∀ sig, parseMethodDescriptor z.desc = some sig → n = sig.parameters.length := fun sig h => by rw [h] at n3; exact (Option.some.inj n3).symm
  have hws : ∀ w ∈ [Cond.code z cc2 mL rt2], ∀ (a' : Array Value) (U : State), s.WarmedH U.vm → w.before a' U = true := fun w hw a' U hwm => by
    rw [List.mem_singleton.mp hw]
    exact (hW.1.warm hwm).use hcode rfl a'
  obtain ⟨cell, q1, q2, q3, -⟩ := ((hTa.2.1.kept hW.base).1 0 (by decide)).1
  have hcell : ∃ cellB : Cell, H[X.2.1]? = some cellB ∧ cellB.vm.isStatics = false ∧ s.vm.findClass z.cls = some cellB.cls := ⟨cell, q1, q2, by rw [hcls]; exact q3⟩
  have hF : CallFix p m c cc c.maxLocals s args ([] : List Cond) y.cls := ⟨hx, hb, rfl, hown, fun w h => by cases h⟩
  have hroom : 2 * 0 + ((st.map (pTv X)).map fun v => v.category).sum ≤ 8 := by rw [pCat_eq]; omega
  exact va_runV (n := n) hF hM ⟨⟨rfl, rfl, by show d + 1 + 1 ≤ _; omega, by show 8 + (mL + 11) + (60 * d + 100) ≤ _; omega, hws, List.mem_singleton.mpr rfl, hW.1.use hcode rfl args, hW.1.use n4 rfl args, ⟨n1, n2⟩, hlen, hW.1.use hlk rfl args⟩, hW.1.use hinst rfl args, hW.1.use hsel rfl args⟩ ⟨hbl, hcell, hpre⟩ rfl hn hsz rfl hroom hd ⟨by omega, by omega⟩
end XB
