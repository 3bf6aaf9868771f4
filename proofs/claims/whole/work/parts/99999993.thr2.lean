/-! tries throws; the law's own hopper and tries -/
set_option maxHeartbeats 4000000 in
theorem tX11t {l : Launch} {X : pX} {d : Nat} {M : pM} {z : Int} (hlt : l.stackTraces = false) (hz : inR z) (hn : ¬ (0 ≤ z ∧ z < 4)) : vx_Met l yX11_tries [Cond.code yX11_tries cX11_tries 2 (some .int)] (pRm (d + 6) 1 6) (pPx X [.ref 2, .int (iI z)] M) (fun _ _ _ _ => False) (xXC X M) 1 6 (fun q => X.2.2.1.size ≤ q) := by
  refine vx_ofW (cc := cX11_tries) (maxL := 2) (ret := some .int) (by decide) rfl ?_
  intro p e s m args below meth c s₁ B hml hex hv
  obtain ⟨⟨rfl, hW⟩, hT⟩ := hv
  have E : pE p (pRm (d + 6) 1 6) s m meth c (d + 5) 1 6 yX11_tries cX11_tries := ⟨B.exec, B.bytes, findClass_of_methodNamed B.named, fun hi => (name_of_methodNamed B.named B.method).1.trans hi, Nat.le_refl _, Nat.le_refl _, by show d + 5 + 2 ≤ d + 6 + 1; omega, by show 60 * (d + 5) + 160 ≤ 60 * (d + 6) + 100; omega⟩
  have hthr := fun ls => x_thr (e := e) (below := below) (args := (([.ref 2, .int (iI z)] : List Value).map (pTv X)).toArray) (ls := ls) (pc := 7) hlt E rfl (by omega) B.notSynchronized hT hW hex dX11_tries_7 dX11_tries_10 dX11_tries_11 dX11_tries_14
  have hP := sz_all (l := l) (e := e) (below := below) (C := pMz l X (d + 5)) (Q := fun _ _ => False) (rt := some .int) (args := (([.ref 2, .int (iI z)] : List Value).map (pTv X)).toArray) (Qw := vx_MQ below (fun _ _ _ _ => False) (xXC X M) (([.ref 2, .int (iI z)] : List Value).map (pTv X)).toArray s 1 6 (fun q => X.2.2.1.size ≤ q)) (cx := 1) (sx := 6) E hT (fun _ _ _ _ _ _ h => h) (fun r M H arr locs cells slots pc hq => hq.elim)
  have hl := lv_entry (([.ref 2, .int (iI z)] : List Value).map (pTv X)) (n := 2) (Nat.le_refl _)
  have hG : pG p l e (pRm (d + 6) 1 6) s m (([.ref 2, .int (iI z)] : List Value).map (pTv X)).toArray below meth c (vx_MQ below (fun _ _ _ _ => False) (xXC X M) (([.ref 2, .int (iI z)] : List Value).map (pTv X)).toArray s 1 6 (fun q => X.2.2.1.size ≤ q)) X 1 6 1 6 0 [some (.ref 2), some (.int (iI z))] [] M := by
    obtain ⟨h1, h2, h3, h4, h5, h6, h7, h8, h9, h10, h11, h12, h13, h14, h15, h16, h17, h18, h19, h20, h21, h22, h23, h24, h25, h26, h27, h28, h29, h30, h31, h32, h33, h34, h35, h36, h37, h38, h39, h40⟩ := hP
    have hP : pCl (pMz l X (d + 5)) (fun _ _ => False) yX11_tries cX11_tries (some .int) (pG p l e (pRm (d + 6) 1 6) s m (([.ref 2, .int (iI z)] : List Value).map (pTv X)).toArray below meth c (vx_MQ below (fun _ _ _ _ => False) (xXC X M) (([.ref 2, .int (iI z)] : List Value).map (pTv X)).toArray s 1 6 (fun q => X.2.2.1.size ≤ q)) X 1 6) := ⟨h1, h2, h3, h4, h5, h6, h7, h8, h9, h10, h11, h12, h13, h14, h15, h16, h17, h18, h19, h20, h21, h22, h23, h24, h25, h26, h27, h28, h29, h30, h31, h32, h33, h34, h35, h36, h37, h38, h39, h40⟩
    refine q_iload1 hP (pc2 := 1) dX11_tries_0 rfl ?_
    refine h36 1 6 1 _ M [] _ _ 0 0 [.int (iI z)] _ _ dX11_tries_1 sX11_155 rfl (by decide) (pMz.le1 (c_X11_isHopper (d := 0) (h := z) hz) (by omega)) ?_
    rintro _ M2 ⟨rfl, e2⟩
    rw [e2, show (if 0 ≤ z ∧ z < 4 then (1 : Int) else 0) = 0 from if_neg hn]
    exact h8 1 6 4 _ M [] _ _ 15 (iI 0) dX11_tries_4 (by decide) (fun h => absurd rfl h) (fun _ => hthr _)
  show W p l e (pRm (d + 6) 1 6) s m _ below meth c s.heap [] 0 0 _ (entryFrame m (([.ref 2, .int (iI z)] : List Value).map (pTv X)).toArray 2)
  rw [lg_entry_eq]
  exact hG s.heap _ [] 0 0 hW (pEnt_lr X (as := [.ref 2, .int (iI z)]) (n := 2) (Nat.le_refl _) hl) (by rw [hml]; rfl) (fun q hq => by cases hq) (by omega) (by omega)
/-- a method of the law that catches -/
def pMw (l : Launch) (X : pX) (d : Nat) : pCt := fun kc ks z as M Q =>
  ∃ (cc : ByteArray) (mL : Nat) (rt : Option FieldType) (hh : List (Nat × Nat × Nat × Nat)), Cond.codeWith z cc mL rt hh ∈ lw_tbl ∧ mL ≤ 30 ∧ (z = yL_hopper ∨ z = yL_tries) ∧ Met l z [Cond.codeWith z cc mL rt hh] (pRm d kc ks) (pPx X as M) (pQc X Q) kc ks (fun q => X.2.2.1.size ≤ q)
theorem met_vx {l : Launch} {y : MethodName} {ws : List Cond} {rm : Room} {Pc : Array Value → State → Prop} {Qc : Array Value → State → Outcome → State → Prop} {mc ms : Nat} {free : Addr → Prop} (h : vx_Met l y ws rm Pc Qc (fun _ _ _ => False) mc ms free) : Met l y ws rm Pc Qc mc ms free := fun p e a1 a2 a3 s m args below a4 a5 a6 a7 => by
  obtain ⟨n, o, h1, h2, h3, hq⟩ := h p e a1 a2 a3 s m args below a4 a5 a6 a7
  rcases hq with hq | ⟨q, -, E, ce, L, hx, -⟩
  · exact ⟨n, o, h1, h2, h3, hq⟩
  · exact hx.elim
theorem sw_met {l : Launch} {X : pX} {d kc ks : Nat} {z : MethodName} (cc : ByteArray) (mL : Nat) (rt : Option FieldType) (hh : List (Nat × Nat × Nat × Nat)) {as : List Value} {M : pM} {Q : pQ} (hcode : Cond.codeWith z cc mL rt hh ∈ lw_tbl) (hpl : plainName z.cls = true) (hzz : z = yL_hopper ∨ z = yL_tries) (hmL : mL ≤ 30) (hlen : (pSls as).length ≤ mL) (hni : z.name ≠ "<init>")
    (hgo : ∀ (p : Program) (e : Env) (s : State) (m : MethodId) (below : List Frame) (meth : Method) (c : Code) (Qw : State → Prop) (args : Array Value), pE p (pRm (d + 1) kc ks) s m meth c d kc ks z cc → pTx X s → c.exceptionTable.toList = tableOf hh → pCl (pMz l X d) Q z cc rt (pG p l e (pRm (d + 1) kc ks) s m args below meth c Qw X kc ks) →
      pG p l e (pRm (d + 1) kc ks) s m args below meth c Qw X kc ks kc ks 0 (pEnt as mL) [] M) : pMw l X (d + 1) kc ks z as M Q := by
  refine ⟨cc, mL, rt, hh, hcode, hmL, hzz, met_vx (vx_ofWH (hh := hh) (cc := cc) (maxL := mL) (ret := rt) hpl rfl ?_)⟩
  intro p e s m args below meth c s₁ B hml hv
  obtain ⟨⟨rfl, hW⟩, hT⟩ := hv
  refine vx_ret ?_
  have E : pE p (pRm (d + 1) kc ks) s m meth c d kc ks z cc := ⟨B.exec, B.bytes, findClass_of_methodNamed B.named, fun hi => absurd hi hni, Nat.le_refl _, Nat.le_refl _, by show d + 2 ≤ d + 1 + 1; omega, by show 60 * d + 160 ≤ 60 * (d + 1) + 100; omega⟩
  have hG := hgo p e s m below meth c (MQ below (pQc X Q) (as.map (pTv X)).toArray s kc ks (fun q => X.2.2.1.size ≤ q)) (as.map (pTv X)).toArray E hT (vx_table (x := z) B (hW.1.use hcode rfl _)) (sz_all E hT (fun _ _ _ _ _ _ h => h) (sz_end B.exec B.bytes B.returns B.notSynchronized))
  have hle : (lg_sl (as.map (pTv X))).length ≤ mL := by rw [pSls_len]; exact hlen
  have hl := lv_entry (as.map (pTv X)) (n := mL) hle
  show W p l e (pRm (d + 1) kc ks) s m (as.map (pTv X)).toArray below meth c s.heap [] 0 0 _ (entryFrame m (as.map (pTv X)).toArray mL)
  rw [lg_entry_eq]
  exact hG s.heap _ [] 0 0 hW (pEnt_lr X hlen hl) (by rw [pEnt_len hlen, hml]) (fun q hq => by cases hq) (by omega) (by omega)
set_option maxHeartbeats 4000000 in
theorem wLh1 {l : Launch} {X : pX} {d : Nat} {M : pM} {x y : Int32} {Q1 : pQ} (hS : sOk M.1) (hc : Ct 340 0 0 yX11_hopper [.ref 2, .int x, .int y] M Q1) (hq : ∀ v M2, Q1 v M2 → sOk M2.1 ∧ ∃ x, v = some (.int x)) : pMw l X (d + 341) 0 0 yL_hopper [.ref 2, .int x, .int y, .ref 351] M (fun v M3 => ∃ M2 x, Q1 (some (.int x)) M2 ∧ M3 = pJ M2 351 0 x.toInt64 ∧ v = some (.int (iI 0))) := by
  refine sw_met (d := d + 340) cL_hopper 5 (some .int) [(0, 10, 13, 13)] (pIn 983 (by decide +kernel)) (by decide) (Or.inl rfl) (by decide) (Nat.le_of_ble_eq_true rfl) (by decide) ?_
  intro p e s m below meth c Qw args E hT htab hP
  refine (show Go (pMz l X (d + 340)) _ yL_hopper cL_hopper (some .int) 0 0 0 [some (.ref 2), some (.int x), some (.int y), some (.ref 351), none] [] M from ?_) _ hP
  refine r_aload3 (pc2 := 1) dL_hopper_0 rfl ?_
  refine r_iconst (pc2 := 2) dL_hopper_1 rfl ?_
  refine r_aload0 (pc2 := 3) dL_hopper_2 rfl ?_
  refine r_iload1 (pc2 := 4) dL_hopper_3 rfl ?_
  refine r_iload2 (pc2 := 5) dL_hopper_4 rfl ?_
  refine r_cv2 (pc2 := 8) dL_hopper_5 rfl vL_7 (hK_2 hS) (Nat.le_of_ble_eq_true rfl) (pMz.le1 hc (by omega)) ?_
  intro v M2 h2
  obtain ⟨hS2, x1, rfl⟩ := hq v M2 h2
  refine go_op2 dL_hopper_8 (Or.inr (Or.inr (Or.inl ⟨x1, _, rfl, rfl, rfl⟩))) ?_
  refine r_last (pc2 := 10) dL_hopper_9 rfl (hK_351 hS2) (by decide) 0 rfl (by decide) ?_
  refine r_goto (tgt := 17) dL_hopper_10 (by decide) ?_
  refine r_iconst (pc2 := 18) dL_hopper_17 rfl ?_
  exact r_ireti dL_hopper_18 rfl ⟨M2, x1, h2, rfl, rfl⟩
set_option maxHeartbeats 4000000 in
theorem wLt1 {l : Launch} {X : pX} {d : Nat} {M : pM} {x : Int32} {Q1 : pQ} (hS : sOk M.1) (hc : Ct 340 0 0 yX11_tries [.ref 2, .int x] M Q1) (hq : ∀ v M2, Q1 v M2 → sOk M2.1 ∧ ∃ x, v = some (.int x)) : pMw l X (d + 341) 0 0 yL_tries [.ref 2, .int x, .ref 351] M (fun v M3 => ∃ M2 x, Q1 (some (.int x)) M2 ∧ M3 = pJ M2 351 0 x.toInt64 ∧ v = some (.int (iI 0))) := by
  refine sw_met (d := d + 340) cL_tries 4 (some .int) [(0, 9, 12, 13)] (pIn 1052 (by decide +kernel)) (by decide) (Or.inr rfl) (by decide) (Nat.le_of_ble_eq_true rfl) (by decide) ?_
  intro p e s m below meth c Qw args E hT htab hP
  refine (show Go (pMz l X (d + 340)) _ yL_tries cL_tries (some .int) 0 0 0 [some (.ref 2), some (.int x), some (.ref 351), none] [] M from ?_) _ hP
  refine r_aload2 (pc2 := 1) dL_tries_0 rfl ?_
  refine r_iconst (pc2 := 2) dL_tries_1 rfl ?_
  refine r_aload0 (pc2 := 3) dL_tries_2 rfl ?_
  refine r_iload1 (pc2 := 4) dL_tries_3 rfl ?_
  refine r_cv1 (pc2 := 7) dL_tries_4 rfl vL_15 (hK_2 hS) (Nat.le_of_ble_eq_true rfl) (pMz.le1 hc (by omega)) ?_
  intro v M2 h2
  obtain ⟨hS2, x1, rfl⟩ := hq v M2 h2
  refine go_op2 dL_tries_7 (Or.inr (Or.inr (Or.inl ⟨x1, _, rfl, rfl, rfl⟩))) ?_
  refine r_last (pc2 := 9) dL_tries_8 rfl (hK_351 hS2) (by decide) 0 rfl (by decide) ?_
  refine r_goto (tgt := 15) dL_tries_9 (by decide) ?_
  refine r_iconst (pc2 := 16) dL_tries_15 rfl ?_
  exact r_ireti dL_tries_16 rfl ⟨M2, x1, h2, rfl, rfl⟩
