def R_law : String := "MarbleWorksLaw"
def lw_P (b : Addr) (xs : List Int32) (args : Array Value) (s : State) : Prop := args = #[.ref b] ∧ s.IntsAt b xs ∧ xs.length ≤ 3584 ∧ (Jvm.Cond.and given_1 narrow_1).before args s = true
def lw_Q (_ : Array Value) (s : State) (o : Outcome) (t : State) : Prop := o = .returned (some (.int 1)) ∧ Framed s o t [] 601024 7293034
def lw_Z (below : List Frame) (a : Array Value) (s : State) : State → Prop := fun t => ∃ o, t.status = .running ∧ Ended t below o ∧ lw_Q a s o t
/-- the law's own end, with 1 on the stack, nothing written that was there before, its room as the claim has it -/
theorem lw_ret {p : Program} {l : Launch} {e : Env} {s : State} {m : MethodId} {below : List Frame} {meth : Method} {c : Code} {b : Nat} (hx : p.tables.exec = Jvm.exec) (hb : c.code = code) (hr : meth.sig.returnType = ret) (hlocks : meth.locks = false) {pc : Nat} {H : Heap} {ls : Array Slot} (hdg : decode code pc = .ok (.ireturn, 1)) : W p l e room_1 s m #[Value.ref b] below meth c H [] 601024 7293034 (lw_Z below #[Value.ref b] s) (F0 m pc ls [.int 1]) := by
  intro T hT X
  obtain ⟨fs, hret, hrun, hended, hW, hframe⟩ := X.leave (v := some (.int 1)) (hlocks := hlocks) (fun h => by rw [hr] at h; cases h)
  have hmeth' : T.vm.method? m = some meth := X.method'
  refine ⟨T.setFrames fs, ?_, .returned (some (.int 1)), hrun, hended, rfl, ⟨_, rfl⟩, hW, hframe⟩
  jvm_step X.here [X.here.top, hx, hb, hdg, hmeth', hr, ret, narrow_b1]
  (try refine ⟨rfl, ?_⟩); (try refine ⟨rfl, ?_⟩)
  first | (intro acts; rw [hret _ acts rfl rfl rfl]) | rw [hret _ _ rfl rfl rfl]
  exact Steps.refl _
/-- what holds at the law's entry: the machine, the code, the tables' words (any of lw_tbl by 'hts w (by decide +kernel)'), the script of L ints xs at the cell b, what the Statement gives of the start (any of its parts by flat_of_before) -/
def lw_At (p : Program) (s : State) (m : MethodId) (meth : Method) (c : Code) (b L : Nat) (xs : Nat → Int32) : Prop :=
  p.tables.exec = Jvm.exec ∧ c.code = code ∧ meth.sig.returnType = ret ∧ c.maxLocals = 7 ∧ s.vm.findClass R_law = some m.cls ∧ (∀ w ∈ lw_tbl, w.before #[Value.ref b] s = true) ∧ va_X b L xs s s.heap ∧ b < s.heap.size ∧ meth.locks = false ∧ (Jvm.Cond.and given_1 narrow_1).before #[Value.ref b] s = true
/-! the law over the machine -/
/-- what the law calls -/
def lwC (l : Launch) (X : pX) : pCt := fun kc ks z as M Q => pMz l X 350 kc ks z as M Q ∨ pMw l X 350 kc ks z as M Q
theorem lw_nov : ∀ (ci : Nat) (T : u_T) (N : Nat), vwCl[ci]? ≠ some (RL, T, N) := fun ci T N h => by
  have h2 : RL ∈ vwCl.map (fun q => q.1) := List.mem_map.mpr ⟨_, List.mem_of_getElem? h, rfl⟩
  exact absurd h2 (by decide +kernel)
theorem lw_non : lw_tbl.all (fun w => match w with | .methodLinkNest _ _ z _ => decide (z ≠ yL_hopper ∧ z ≠ yL_tries) | _ => true) = true := by decide +kernel
section LWX
variable {p : Program} {l : Launch} {e : Env} {R : Room} {s : State} {m : MethodId} {args : Array Value} {below : List Frame} {meth : Method} {c : Code} {Qw : State → Prop} {X : pX} {cx sx : Nat} {Q : pQ} {cc : ByteArray} {rt : Option FieldType}
theorem lwx_invV (E : pE p R s m meth c 350 cx sx yL_law cc) (hT : pTx X s) : pr_invV (lwC l X) Q yL_law cc rt (pG p l e R s m args below meth c Qw X cx sx) := by
  intro kc ks pc ls M st idx n kc2 ks2 as z Q2 a ci hd hV hK has hst hcall g
  rcases hcall with hcall | ⟨cc2, mL, rt2, hh, -, -, hz, -⟩
  · exact sz_invV (C := pMz l X 350) (Q := Q) (rt := rt) E hT (fun _ _ _ _ _ _ h => h) kc ks pc ls M st idx n kc2 ks2 as z Q2 a ci hd hV hK has hst hcall g
  · obtain ⟨-, -, -, -, T, N, hcl⟩ := hV
    have : z.cls = RL := by rcases hz with rfl | rfl <;> rfl
    rw [this] at hcl
    exact absurd hcl (lw_nov _ _ _)
theorem lwx_invI (E : pE p R s m meth c 350 cx sx yL_law cc) (hT : pTx X s) : pr_invI (lwC l X) Q yL_law cc rt (pG p l e R s m args below meth c Qw X cx sx) := by
  intro kc ks pc ls M st idx n kc2 ks2 as z Q2 a hd hV has hst hcall g
  rcases hcall with hcall | ⟨cc2, mL, rt2, hh, -, -, hz, -⟩
  · exact sz_invI (C := pMz l X 350) (Q := Q) (rt := rt) E hT (fun _ _ _ _ _ _ h => h) kc ks pc ls M st idx n kc2 ks2 as z Q2 a hd hV has hst hcall g
  · obtain ⟨-, -, -, hi⟩ := hV
    rcases hz with rfl | rfl <;> exact absurd hi (by decide)
theorem lwx_invS (E : pE p R s m meth c 350 cx sx yL_law cc) (hT : pTx X s) : pr_invS (lwC l X) Q yL_law cc rt (pG p l e R s m args below meth c Qw X cx sx) := by
  intro kc ks pc ls M st idx n kc2 ks2 as z Q2 hd hV has hst hcall g
  rcases hcall with hcall | ⟨cc2, mL, rt2, hh, hcode, hmL, hz, hM⟩
  · exact sz_invS (C := pMz l X 350) (Q := Q) (rt := rt) E hT (fun _ _ _ _ _ _ h => h) kc ks pc ls M st idx n kc2 ks2 as z Q2 hd hV has hst hcall g
  intro H arr locs cells slots hW hL hz2 hl hc hs
  obtain ⟨hx, hb, hown, hnm, hcx, hsx, hfr, hlo⟩ := E
  obtain ⟨hlk, ⟨n1, n2, n3, n4⟩, hstat⟩ := hV
  have hlk : Cond.methodLink yL_law.cls idx z ∈ lw_tbl := by
    rcases hlk with h | ⟨h9, h⟩
    · exact h
    · have := of_decide_eq_true (List.all_eq_true.mp lw_non _ h)
      rcases hz with rfl | rfl
      · exact absurd rfl this.1
      · exact absurd rfl this.2
  have hlen : ∀ sig, parseMethodDescriptor z.desc = some sig → n = sig.parameters.length := fun sig h => by rw [h] at n3; exact (Option.some.inj n3).symm
  have hws : ∀ w ∈ [Cond.codeWith z cc2 mL rt2 hh], ∀ (a' : Array Value) (U : State), s.WarmedH U.vm → w.before a' U = true := fun w hw a' U hwm => by
    rw [List.mem_singleton.mp hw]
    exact (hW.1.warm hwm).use hcode rfl a'
  have hpre : PreS s H (pPx X as M) (as.map (pTv X)) := ⟨pPx_blind X _ M, fun U hU hwm => ⟨⟨rfl, by rw [hU]; exact hW.warm hwm⟩, hT.warm hwm⟩⟩
  have hF : CallFix p m c cc c.maxLocals s args ([] : List Cond) yL_law.cls := ⟨hx, hb, rfl, hown, fun w h => by cases h⟩
  have hfull : (as.reverse ++ st).map (pTv X) = (as.map (pTv X)).reverse ++ st.map (pTv X) := by simp [List.map_append, List.map_reverse]
  have hroom : 2 * 0 + ((st.map (pTv X)).map fun v => v.category).sum ≤ 8 := by rw [pCat_eq]; omega
  have hsz : arr.size = c.maxLocals := by rw [hL.1]; exact hz2
  rw [hfull]
  refine sn_after (a := (as.map (pTv X)).toArray) hW hL hz2 hl hc hs ?_ g
  exact vx_runSW (n := n) hF hM ⟨⟨rfl, rfl, by show 350 + 1 + 1 ≤ _; omega, by show 8 + (mL + 11) + (60 * 350 + 100) ≤ _; omega, hws, List.mem_singleton.mpr rfl⟩, hW.1.use hcode rfl args, hW.1.use n4 rfl args, ⟨n1, n2⟩, hlen, hW.1.use hlk rfl args, hW.1.use hstat rfl args⟩ hpre rfl (by rw [List.length_map]; exact has) hsz rfl hroom hd ⟨by omega, by omega⟩
theorem lwx_all (E : pE p R s m meth c 350 cx sx yL_law cc) (hT : pTx X s) (hE : pEnd p l e R s m args below meth c Qw X cx sx Q cc rt) : pCl (lwC l X) Q yL_law cc rt (pG p l e R s m args below meth c Qw X cx sx) := by
  obtain ⟨h1, h2, h3, h4, h5, h6, h7, h8, h9, h10, h11, h12, h13, h14, h15, h16, h17, h18, h19, h20, h21, h22, h23, h24, h25, h26, h27, h28, h29, h30, h31, h32, h33, h34, h35, h36, h37, h38, h39, h40⟩ := sn_all (C := fun _ _ _ _ _ _ => False) E (fun _ _ _ _ _ _ h => h.elim) hE
  exact ⟨h1, h2, h3, h4, h5, h6, h7, h8, h9, h10, h11, h12, h13, h14, h15, h16, h17, h18, h19, h20, h21, h22, h23, h24, h25, h26, h27, h28, h29, h30, h31, h32, h33, lwx_invV E hT, lwx_invI E hT, lwx_invS E hT, h37, h38, h39, h40⟩
end LWX
theorem lwx_hH {l : Launch} {X : pX} (hlt : l.stackTraces = false) : lwH (lwC l X) := ⟨fun M x y Q1 hS hc hq => Or.inr (wLh1 (d := 9) hS hc hq), fun M z w hS hz hw hn => Or.inr (wLh2 (d := 343) hlt hS hz hw hn)⟩
theorem lwx_hR {l : Launch} {X : pX} (hlt : l.stackTraces = false) : lwR (lwC l X) := ⟨fun M x Q1 hS hc hq => Or.inr (wLt1 (d := 9) hS hc hq), fun M z hS hz hn => Or.inr (wLt2 (d := 343) hlt hS hz hn)⟩
def lwQ : pQ := fun v _ => v = some (.int (iI 1))
/-- the law, from a memory with the script in it -/
theorem lwx_go {p : Program} {l : Launch} {e : Env} {R : Room} {s : State} {m : MethodId} {args : Array Value} {below : List Frame} {meth : Method} {c : Code} {Qw : State → Prop} {X : pX} {M : pM} {L : Nat} {sc : Nat → Int} (hlt : l.stackTraces = false) (E : pE p R s m meth c 350 862 119695 yL_law cL_law) (hT : pTx X s) (hE : pEnd p l e R s m args below meth c Qw X 862 119695 lwQ cL_law (some .boolean)) (hr : ∀ j, inR (sc j)) (hL2 : L ≤ 3584) (h0 : LM0 M L sc) :
    pG p l e R s m args below meth c Qw X 862 119695 862 119695 0 [some (.ref 0), none, none, none, none, none, none] [] M :=
  lw_go (C := lwC l X) (fun kc ks z as M Q h => Or.inl (pMz.le1 h (by decide))) (lwx_hH hlt) (lwx_hR hlt) (fun M hf => Or.inl (mX11 (d := 339) hf)) (fun _ => rfl) hr hL2 h0 _ (lwx_all E hT hE)
/-- the law's end -/
theorem lwx_end {p : Program} {l : Launch} {e : Env} {s : State} {m : MethodId} {below : List Frame} {meth : Method} {c : Code} {X : pX} {b : Nat} (hx : p.tables.exec = Jvm.exec) (hb : c.code = code) (hr : meth.sig.returnType = ret) (hlocks : meth.locks = false) (hX : X.2.2.1 = s.heap) : pEnd p l e room_1 s m #[Value.ref b] below meth c (lw_Z below #[Value.ref b] s) X 862 119695 lwQ cL_law (some .boolean) := by
  intro r M2 H arr locs cells slots pc hq hw hl hc hs hrt
  have hq : r = some (.int (iI 1)) := hq
  subst hq
  refine va_forget (fun q h => by have := hl q h; rw [hX] at this; exact this) ?_
  refine W.widen (k := 601024) (n := 7293034) (by omega) (by omega) ?_
  rcases hrt with ⟨x, e1, hd, -⟩ | ⟨x, e1, hd, hrt⟩ | ⟨a, nm, e1, hd, hrt⟩ | ⟨e1, hd, hrt⟩
  · exact lw_ret hx hb hr hlocks hd
  · cases e1
  · cases e1
  · cases e1
