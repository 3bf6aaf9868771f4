/-! the law catches -/
section XT
variable {p : Program} {l : Launch} {e : Env} {R : Room} {s : State} {m : MethodId} {args : Array Value} {below : List Frame} {meth : Method} {c : Code} {Qw : State → Prop} {X : pX} {d cx sx : Nat} {y : MethodName} {cc : ByteArray}
theorem sx_caught (E : pE p R s m meth c d cx sx y cc) (hy : y.cls = RL) (hT : pTx X s) {M : pM} {pc idx n kc2 ks2 mL a ci : Nat} {cc2 : ByteArray} {rt2 : Option FieldType} {z : MethodName} {as st : List Value} {ls : pL} (x : ExceptionTableEntry)
    (htab : c.exceptionTable.toList = [x]) (hcv : covers x pc = true) (hct : x.catchType = 13)
    (hd : decode cc pc = .ok (.invokevirtual idx, 3)) (hV : pVi y.cls idx ci n z) (hlk : Cond.methodLink y.cls idx z ∈ lw_tbl) (hK : M.1.2.1 a = (1, ci)) (has : as.length = n) (hst : pCat st ≤ 8)
    (hcode : Cond.code z cc2 mL rt2 ∈ lw_tbl) (hmL : mL ≤ 30)
    (hM : vx_Met l z [Cond.code z cc2 mL rt2] (pRm d kc2 ks2) (pPx X (.ref a :: as) M) (fun _ _ _ _ => False) (xXC X M) kc2 ks2 (fun q => X.2.2.1.size ≤ q))
    (g : ∀ (M3 : pM) (H3 : Heap) (q : Addr) (arr : Array Slot) (locs3 : List Loc) (cells slots : Nat), NG M M3 → pW X M3 s H3 → pLr X ls arr → ls.length = c.maxLocals → (∀ q ∈ locs3, X.2.2.1.size ≤ q.base) → cells ≤ cx → slots ≤ sx → W p l e R s m args below meth c H3 locs3 cells slots Qw (F0 m x.handlerPc arr [.ref q])) :
    pG p l e R s m args below meth c Qw X cx sx kc2 ks2 pc ls (as.reverse ++ .ref a :: st) M := by
  intro H arr locs cells slots hW hL hz hl hc hs
  obtain ⟨hx, hb, hown, hnm, hcx, hsx, hfr, hlo⟩ := E
  obtain ⟨-, ⟨n1, n2, n3, n4⟩, hinst, hsel, T, N, hcl⟩ := hV
  have hlen : ∀ sig, parseMethodDescriptor z.desc = some sig → n = sig.parameters.length := fun sig h => by rw [h] at n3; exact (Option.some.inj n3).symm
  have hws : ∀ w ∈ [Cond.code z cc2 mL rt2], ∀ (a' : Array Value) (U : State), s.WarmedH U.vm → w.before a' U = true := fun w hw a' U hwm => by
    rw [List.mem_singleton.mp hw]
    exact (hW.1.warm hwm).use hcode rfl a'
  obtain ⟨q, hq, cell, q1, q2, q3, q4⟩ := (hW.2.2.2.2.2.2 a).1 ci hK
  have hqe : q = (z.cls, T, N) := Option.some.inj (hq.symm.trans hcl)
  subst hqe
  have hKn := hW.2.1 ci _ hcl
  have hcell : ∃ cellB : Cell, H[pAd X a]? = some cellB ∧ cellB.vm.isStatics = false ∧ s.vm.findClass z.cls = some cellB.cls := ⟨cell, q1, by rw [q3]; rfl, by rw [q2]; exact hKn.2.1⟩
  have hpre : PreV s H z.cls (pAd X a) (pPx X (.ref a :: as) M) (as.map (pTv X)) := ⟨pPx_blind X _ M, hcell, fun U hU hwm => ⟨⟨rfl, by rw [hU]; exact hW.warm hwm⟩, hT.warm hwm⟩⟩
  have hF : CallFix p m c cc c.maxLocals s args ([] : List Cond) y.cls := ⟨hx, hb, rfl, hown, fun w h => by cases h⟩
  have hfull : (as.reverse ++ .ref a :: st).map (pTv X) = (as.map (pTv X)).reverse ++ .ref (pAd X a) :: st.map (pTv X) := by simp [List.map_append, List.map_reverse, pTv]
  have hroom : 2 * 0 + ((st.map (pTv X)).map fun v => v.category).sum ≤ 8 := by rw [pCat_eq]; omega
  have hsz : arr.size = c.maxLocals := by rw [hL.1]; exact hz
  rw [hfull]
  have hr := vx_runV (p := p) (l := l) (e := e) (R := R) (below := below) (meth := meth) (locs := locs) (cells := cells) (slots := slots) (g := F0 m pc arr ((as.map (pTv X)).reverse ++ .ref (pAd X a) :: st.map (pTv X))) (rest := st.map (pTv X)) (n := n) hF hM ⟨⟨rfl, rfl, by show d + 1 + 1 ≤ _; omega, by show 8 + (mL + 11) + (60 * d + 100) ≤ _; omega, hws, List.mem_singleton.mpr rfl, hW.1.use hcode rfl args, hW.1.use n4 rfl args, ⟨n1, n2⟩, hlen, hW.1.use hlk rfl args⟩, hW.1.use hinst rfl args, hW.1.use hsel rfl args⟩ hpre rfl (by rw [List.length_map]; exact has) hsz rfl hroom hd ⟨by omega, by omega⟩
  intro T0 hT0 XS
  rcases hr T0 hT0 XS with ⟨v, st₀, t, T', L, h0, X', hL2, e1, e2, hf, -⟩ | ⟨q, st₀, t, T', L, E, ce, h0, X', hL2, e1, e2, ⟨rfl, M3, hng, hall⟩, hce, hcv2, hcl2, stp⟩
  · exact hf.elim
  · have hal : t.vm.Alike s.vm := by rw [← e2]; exact X'.warmed.alike.symm
    have hw3 : pW X M3 s T'.heap := by rw [e1]; exact hall s hW.1 hal
    have kk := g M3 T'.heap q arr (locs ++ L) (cells + kc2) (slots + ks2) hng hw3 hL hz (fun q hq => (List.mem_append.mp hq).elim (hl q) (hL2 q)) (by omega) (by omega)
    obtain ⟨adV, hTa⟩ := hT
    have k9 := vx_catch (own := RL) (name := xNs) (E := xNs) (pc := pc) (ls := arr) (rest := st.map (pTv X)) (by rw [← hy]; exact hown) [] x [] htab (fun z h => by cases h) hcv (by rw [hct]; decide) (by rw [hct]; exact hW.1.use (pIn 984 (by decide +kernel)) rfl args) (va_Nw.use rfl hTa.2.2.2.2.2.2.1) (by rw [e1]; exact hce) hcv2 hcl2 kk
    obtain ⟨t2, a1, b1⟩ := k9 T' rfl X'
    exact ⟨t2, stp.trans a1, b1⟩
end XT
set_option maxHeartbeats 4000000 in
theorem wLh2 {l : Launch} {X : pX} {d : Nat} {M : pM} {z w : Int} (hlt : l.stackTraces = false) (hS : sOk M.1) (hz : inR z) (hw : inR w) (hn : ¬ ((0 ≤ z ∧ z < 4) ∧ 0 ≤ w ∧ w ≤ 2)) : pMw l X (d + 7) 1 6 yL_hopper [.ref 2, .int (iI z), .int (iI w), .ref 351] M (fun v M3 => NG M M3 ∧ v = some (.int (iI 1))) := by
  refine sw_met (d := d + 6) cL_hopper 5 (some .int) [(0, 10, 13, 13)] (pIn 983 (by decide +kernel)) (by decide) (Or.inl rfl) (by decide) (Nat.le_of_ble_eq_true rfl) (by decide) ?_
  intro p e s m below meth c Qw args E hT htab hP
  have hP2 := hP
  show pG p l e (pRm (d + 6 + 1) 1 6) s m args below meth c Qw X 1 6 1 6 0 [some (.ref 2), some (.int (iI z)), some (.int (iI w)), some (.ref 351), none] [] M
  refine hP.2.1 1 6 0 _ M [] _ _ 3 (.ref 351) dL_hopper_0 (Or.inr (Or.inr ⟨351, rfl, Or.inr ⟨3, rfl, rfl, rfl⟩⟩)) rfl ?_
  refine q_iconst hP (pc2 := 2) dL_hopper_1 rfl ?_
  refine q_aload0 hP (pc2 := 3) dL_hopper_2 rfl ?_
  refine q_iload1 hP (pc2 := 4) dL_hopper_3 rfl ?_
  refine q_iload2 hP (pc2 := 5) dL_hopper_4 rfl ?_
  refine sx_caught (as := [.int (iI z), .int (iI w)]) E rfl hT ⟨0, 10, 13, 13⟩ htab (by decide) rfl dL_hopper_5 vL_7 (pIn 985 (by decide +kernel)) (hK_2 hS) rfl (Nat.le_of_ble_eq_true rfl) kX11_hopper (by decide) (tX11h hlt hz hw hn) ?_
  intro M3 H3 q arr locs3 cells slots hng hW3 hL hz3 hl3 hc3 hs3
  refine lv_astore E.1 E.2.1 dL_hopper_13 hL (Nat.le_of_ble_eq_true rfl) rfl (fun arr2 h2 => ?_)
  have hgo : Go (pMz l X (d + 6)) (fun v M4 => NG M M4 ∧ v = some (.int (iI 1))) yL_hopper cL_hopper (some .int) 0 0 15 [none, none, none, none, none] [] M3 := by
    refine r_iconst (pc2 := 16) dL_hopper_15 rfl ?_
    exact r_ireti dL_hopper_16 rfl ⟨hng, rfl⟩
  exact hgo _ hP H3 arr2 locs3 cells slots hW3 ⟨h2.1, h2.2.1, fun q hq => by cases hq⟩ hz3 hl3 hc3 hs3
set_option maxHeartbeats 4000000 in
theorem wLt2 {l : Launch} {X : pX} {d : Nat} {M : pM} {z : Int} (hlt : l.stackTraces = false) (hS : sOk M.1) (hz : inR z) (hn : ¬ (0 ≤ z ∧ z < 4)) : pMw l X (d + 7) 1 6 yL_tries [.ref 2, .int (iI z), .ref 351] M (fun v M3 => NG M M3 ∧ v = some (.int (iI 1))) := by
  refine sw_met (d := d + 6) cL_tries 4 (some .int) [(0, 9, 12, 13)] (pIn 1052 (by decide +kernel)) (by decide) (Or.inr rfl) (by decide) (Nat.le_of_ble_eq_true rfl) (by decide) ?_
  intro p e s m below meth c Qw args E hT htab hP
  show pG p l e (pRm (d + 6 + 1) 1 6) s m args below meth c Qw X 1 6 1 6 0 [some (.ref 2), some (.int (iI z)), some (.ref 351), none] [] M
  refine hP.2.1 1 6 0 _ M [] _ _ 2 (.ref 351) dL_tries_0 (Or.inr (Or.inr ⟨351, rfl, Or.inr ⟨2, rfl, rfl, rfl⟩⟩)) rfl ?_
  refine q_iconst hP (pc2 := 2) dL_tries_1 rfl ?_
  refine q_aload0 hP (pc2 := 3) dL_tries_2 rfl ?_
  refine q_iload1 hP (pc2 := 4) dL_tries_3 rfl ?_
  refine sx_caught (as := [.int (iI z)]) E rfl hT ⟨0, 9, 12, 13⟩ htab (by decide) rfl dL_tries_4 vL_15 (pIn 1053 (by decide +kernel)) (hK_2 hS) rfl (Nat.le_of_ble_eq_true rfl) kX11_tries (by decide) (tX11t hlt hz hn) ?_
  intro M3 H3 q arr locs3 cells slots hng hW3 hL hz3 hl3 hc3 hs3
  refine lv_astore_n E.1 E.2.1 dL_tries_12 rfl hL (Nat.le_of_ble_eq_true rfl) rfl (fun arr2 h2 => ?_)
  have hgo : Go (pMz l X (d + 6)) (fun v M4 => NG M M4 ∧ v = some (.int (iI 1))) yL_tries cL_tries (some .int) 0 0 13 [none, none, none, none] [] M3 := by
    refine r_iconst (pc2 := 14) dL_tries_13 rfl ?_
    exact r_ireti dL_tries_14 rfl ⟨hng, rfl⟩
  exact hgo _ hP H3 arr2 locs3 cells slots hW3 ⟨h2.1, h2.2.1, fun q hq => by cases hq⟩ hz3 hl3 hc3 hs3
