/-! the class throws, the law catches -/
def gM (M : pM) (k : Nat) : pM := ((M.1.1 + k, (fun c => if c < M.1.1 then M.1.2.1 c else (7, 0)), M.1.2.2), M.2)
theorem gM_ng {M : pM} {k : Nat} : NG M (gM M k) := ⟨fun c hc => ⟨if_pos hc, rfl, rfl, rfl⟩, by show M.1.1 ≤ M.1.1 + k; omega⟩
theorem pAd_add {X : pX} {a k : Nat} (h : 2 ≤ a) : pAd X (a + k) = pAd X a + k := by
  induction k with
  | zero => rfl
  | succ k ih => rw [show a + (k + 1) = a + k + 1 by omega, pAd_succ (by omega), ih]; omega
theorem pAd_lt {X : pX} (h : pXok X) {a b : Nat} (hb : 2 ≤ b) (hab : a < b) : pAd X a < pAd X b := by
  have h1 := pAd_ge (X := X) hb
  obtain ⟨k1, k2, -⟩ := h
  match a, hab with
  | 0, _ => exact Nat.lt_of_lt_of_le k1 h1
  | 1, _ => exact Nat.lt_of_lt_of_le k2 h1
  | a + 2, hab =>
    obtain ⟨j, rfl⟩ : ∃ j, b = a + 2 + (j + 1) := ⟨b - (a + 3), by omega⟩
    rw [pAd_add (a := a + 2) (k := j + 1) (by omega)]; omega
theorem pW.grow {X : pX} {M : pM} {U : State} {H H2 : Heap} (h : pW X M U H) (h1 : H.size ≤ H2.size) (h2 : ∀ q : Nat, q < H.size → H2[q]? = H[q]?) : pW X (gM M (H2.size - H.size)) U H2 := by
  obtain ⟨a1, a2, a3, a4, a5, a6, a7⟩ := h
  have hbs := pAd_ge (X := X) a4
  refine ⟨a1, a2, a3, by show 2 ≤ M.1.1 + _; omega, ?_, fun q hq => by rw [h2 q (by omega)]; exact a6 q hq, fun c => ?_⟩
  · show H2.size = pAd X (M.1.1 + (H2.size - H.size))
    rw [pAd_add a4, ← a5]; omega
  · by_cases u : c < M.1.1
    · exact pCell.kept (if_pos u) rfl rfl rfl (h2 _ (by rw [a5]; exact pAd_lt a3 a4 u)) (a7 c)
    · have e : (gM M (H2.size - H.size)).1.2.1 c = (7, 0) := if_neg u
      refine ⟨fun ci q => ?_, fun t n q q2 q6 => ?_, fun n q => ?_⟩
      · rw [e] at q; exact absurd (congrArg Prod.fst q) (by show ¬ (7 : Nat) = 1; decide)
      · rw [e] at q
        have := congrArg Prod.fst q
        have h9 : (7 : Nat) = t := this
        omega
      · rw [e] at q; exact absurd (congrArg Prod.fst q) (by show ¬ (7 : Nat) = 8; decide)
/-- what is thrown, and the memory behind it -/
def xXC (X : pX) (M : pM) : String → State → State → Prop := fun E _ t => E = xNs ∧ ∃ M3, NG M M3 ∧ ∀ U : State, pTb U → t.vm.Alike U.vm → pW X M3 U t.heap
theorem xXC.of {X : pX} {M : pM} {s st t : State} {H : Heap} (h : pW X M s H) (hal : s.vm.Alike t.vm) (h1 : H.size ≤ t.heap.size) (h2 : ∀ q : Nat, q < H.size → t.heap[q]? = H[q]?) : xXC X M xNs st t :=
  ⟨rfl, gM M (t.heap.size - H.size), gM_ng, fun U hU hv => (h.alike hU (hal.trans hv)).grow h1 h2⟩
def xNm : List String := ["java/lang/RuntimeException", "java/lang/Exception"]
theorem x_at : (vx_at0 RX11 161 xNs xNm).all (fun w => (goodWord w && decide (w ∈ tables_1)) || decide (w = .castable xNs xNs) || decide (w ∈ xDs.map (fun Y => Cond.declares ⟨Y, "<init>", "()V"⟩))) = true := by decide +kernel
theorem x_ot : (Cond.classLink RX11 159 xNs :: Cond.initialized xNs :: vx_at0 RX11 161 xNs xNm).all vx_ot = true := by decide +kernel
theorem x_hat {X : pX} {M : pM} {s : State} {H : Heap} {args : Array Value} (hW : pW X M s H) (hT : pTx X s) : ∀ w ∈ vx_at0 RX11 161 xNs xNm, w.before args s = true := fun w hw => by
  obtain ⟨adV, hTa⟩ := hT
  have h := List.all_eq_true.mp x_at w hw
  rcases (Bool.or_eq_true_iff.mp h) with h | h
  rcases (Bool.or_eq_true_iff.mp h) with h | h
  · have h9 := Bool.and_eq_true_iff.mp h
    exact hW.1.use (List.mem_append_right _ (of_decide_eq_true h9.2)) (by unfold pOkw; rw [h9.1]; rfl) args
  · rw [of_decide_eq_true h]
    exact va_Nw.use rfl hTa.2.2.2.2.2.2.1
  · obtain ⟨Y, hY, e⟩ := List.mem_map.mp (of_decide_eq_true h)
    rw [← e]
    exact va_Nw.use rfl (hTa.2.2.2.2.2.2.2 Y hY)
theorem pW.vs {X : pX} {M : pM} {s : State} {H1 H2 : Heap} {locs : List Loc} (h1 : pW X M s H1) (h2 : pW X M s H2) (hl : ∀ q ∈ locs, X.2.2.1.size ≤ q.base) : va_S (xA X) H1 H2 locs := by
  refine ⟨by rw [h1.2.2.2.2.1, h2.2.2.2.2.1]; exact Nat.le_refl _, fun q hq hn => ?_, hl⟩
  have hb : q < X.2.2.1.size := Nat.lt_of_not_le hn
  rw [h2.2.2.2.2.2.1 q hb, h1.2.2.2.2.2.1 q hb]
/-- throw new NoSuchElementException() -/
theorem x_thr {p : Program} {l : Launch} {e : Env} {R : Room} {s : State} {m : MethodId} {args : Array Value} {below : List Frame} {meth : Method} {c : Code} {X : pX} {M : pM} {d pc : Nat} {y : MethodName} {cc : ByteArray} {ls : pL} (hlt : l.stackTraces = false) (E : pE p R s m meth c d 1 6 y cc) (hy : y.cls = RX11) (hd5 : 5 ≤ d) (hlocks : meth.locks = false) (hT : pTx X s) (hW0 : pW X M s s.heap) (hex : ∀ x ∈ c.exceptionTable.toList, False) (d0 : decode cc pc = .ok (.new 159, 3)) (d3 : decode cc (pc + 3) = .ok (.dup, 1)) (d4 : decode cc (pc + 4) = .ok (.invokespecial 161, 3)) (d7 : decode cc (pc + 7) = .ok (.athrow, 1)) :
    pG p l e R s m args below meth c (vx_MQ below (fun _ _ _ _ => False) (xXC X M) args s 1 6 (fun q => X.2.2.1.size ≤ q)) X 1 6 1 6 pc ls [] M := by
  intro H arr locs cells slots hW hL hz hl hc hs
  obtain ⟨hx, hb, hown, hnm, hcx, hsx, hfr, hlo⟩ := E
  obtain ⟨adV, hTa⟩ := hT
  exact vx_throw0 (own := RX11) (cls := xNs) (names := xNm) (ik := 159) (ic := 161) (A := xA X) (rest := []) hx hb hlt (by rw [← hy]; exact hown) (by decide) (by decide) (hW.1.use (pIn 989 (by decide +kernel)) rfl args) (hW.1.use (pIn 23 (by decide +kernel)) rfl args) (x_hat hW ⟨adV, hTa⟩) (fun w hw => List.all_eq_true.mp x_ot w hw) (hTa.2.2.2.2.1.kept hW0.base) (hTa.2.2.2.2.2.1.kept hW0.base) (hW0.vs hW hl) (hL.1.trans hz) d0 d3 d4 d7 (fun x h => (hex x h).elim) (by show 2 + 3 < R.frames; omega) (by show 0 + (13 * (2 + 1) + 42) ≤ R.locals; omega) (by omega) (by omega) hlocks (fun t hal h1 h2 => xXC.of hW hal h1 h2) hl (by omega) (by omega)
set_option maxHeartbeats 4000000 in
theorem tX11h {l : Launch} {X : pX} {d : Nat} {M : pM} {z w : Int} (hlt : l.stackTraces = false) (hz : inR z) (hw : inR w) (hn : ¬ ((0 ≤ z ∧ z < 4) ∧ 0 ≤ w ∧ w ≤ 2)) : vx_Met l yX11_hopper [Cond.code yX11_hopper cX11_hopper 3 (some .int)] (pRm (d + 6) 1 6) (pPx X [.ref 2, .int (iI z), .int (iI w)] M) (fun _ _ _ _ => False) (xXC X M) 1 6 (fun q => X.2.2.1.size ≤ q) := by
  refine vx_ofW (cc := cX11_hopper) (maxL := 3) (ret := some .int) (by decide) rfl ?_
  intro p e s m args below meth c s₁ B hml hex hv
  obtain ⟨⟨rfl, hW⟩, hT⟩ := hv
  have E : pE p (pRm (d + 6) 1 6) s m meth c (d + 5) 1 6 yX11_hopper cX11_hopper := ⟨B.exec, B.bytes, findClass_of_methodNamed B.named, fun hi => (name_of_methodNamed B.named B.method).1.trans hi, Nat.le_refl _, Nat.le_refl _, by show d + 5 + 2 ≤ d + 6 + 1; omega, by show 60 * (d + 5) + 160 ≤ 60 * (d + 6) + 100; omega⟩
  have hthr := fun ls => x_thr (e := e) (below := below) (args := (([.ref 2, .int (iI z), .int (iI w)] : List Value).map (pTv X)).toArray) (ls := ls) (pc := 16) hlt E rfl (by omega) B.notSynchronized hT hW hex dX11_hopper_16 dX11_hopper_19 dX11_hopper_20 dX11_hopper_23
  have hP := sz_all (l := l) (e := e) (below := below) (C := pMz l X (d + 5)) (Q := fun _ _ => False) (rt := some .int) (args := (([.ref 2, .int (iI z), .int (iI w)] : List Value).map (pTv X)).toArray) (Qw := vx_MQ below (fun _ _ _ _ => False) (xXC X M) (([.ref 2, .int (iI z), .int (iI w)] : List Value).map (pTv X)).toArray s 1 6 (fun q => X.2.2.1.size ≤ q)) (cx := 1) (sx := 6) E hT (fun _ _ _ _ _ _ h => h) (fun r M H arr locs cells slots pc hq => hq.elim)
  have hl := lv_entry (([.ref 2, .int (iI z), .int (iI w)] : List Value).map (pTv X)) (n := 3) (Nat.le_refl _)
  have hz2 := hz
  have hw2 := hw
  unfold inR at hz2 hw2
  have hG : pG p l e (pRm (d + 6) 1 6) s m (([.ref 2, .int (iI z), .int (iI w)] : List Value).map (pTv X)).toArray below meth c (vx_MQ below (fun _ _ _ _ => False) (xXC X M) (([.ref 2, .int (iI z), .int (iI w)] : List Value).map (pTv X)).toArray s 1 6 (fun q => X.2.2.1.size ≤ q)) X 1 6 1 6 0 [some (.ref 2), some (.int (iI z)), some (.int (iI w))] [] M := by
    obtain ⟨h1, h2, h3, h4, h5, h6, h7, h8, h9, h10, h11, h12, h13, h14, h15, h16, h17, h18, h19, h20, h21, h22, h23, h24, h25, h26, h27, h28, h29, h30, h31, h32, h33, h34, h35, h36, h37, h38, h39, h40⟩ := hP
    have hP : pCl (pMz l X (d + 5)) (fun _ _ => False) yX11_hopper cX11_hopper (some .int) (pG p l e (pRm (d + 6) 1 6) s m (([.ref 2, .int (iI z), .int (iI w)] : List Value).map (pTv X)).toArray below meth c (vx_MQ below (fun _ _ _ _ => False) (xXC X M) (([.ref 2, .int (iI z), .int (iI w)] : List Value).map (pTv X)).toArray s 1 6 (fun q => X.2.2.1.size ≤ q)) X 1 6) := ⟨h1, h2, h3, h4, h5, h6, h7, h8, h9, h10, h11, h12, h13, h14, h15, h16, h17, h18, h19, h20, h21, h22, h23, h24, h25, h26, h27, h28, h29, h30, h31, h32, h33, h34, h35, h36, h37, h38, h39, h40⟩
    refine q_iload1 hP (pc2 := 1) dX11_hopper_0 rfl ?_
    refine h36 1 6 1 _ M [] _ _ 0 0 [.int (iI z)] _ _ dX11_hopper_1 sX11_155 rfl (by decide) (pMz.le1 (c_X11_isHopper (d := 0) (h := z) hz) (by omega)) ?_
    rintro _ M2 ⟨rfl, e2⟩
    rw [e2]
    by_cases u : 0 ≤ z ∧ z < 4
    · rw [show (if 0 ≤ z ∧ z < 4 then (1 : Int) else 0) = 1 from if_pos u]
      refine h8 1 6 4 _ M [] _ _ 16 (iI 1) dX11_hopper_4 (by decide) (fun _ => hthr _) (fun _ => ?_)
      refine q_iload2 hP (pc2 := 8) dX11_hopper_7 rfl ?_
      refine h8 1 6 8 _ M [] _ _ 16 (iI w) dX11_hopper_8 (by decide) (fun _ => hthr _) (fun hw0 => ?_)
      refine q_iload2 hP (pc2 := 12) dX11_hopper_11 rfl ?_
      refine q_iconst hP (pc2 := 13) dX11_hopper_12 rfl ?_
      refine h9 1 6 13 _ M [] _ _ 24 (iI w) (iI 2) dX11_hopper_13 (by decide) (fun q => ?_) (fun _ => hthr _)
      refine absurd ⟨u, ?_, ?_⟩ hn
      · have h9 : ¬ iI w < iI 0 := hw0
        rw [iI_lt hw ⟨by omega, by omega⟩] at h9
        omega
      · have h9 : iI w ≤ iI 2 := q
        rw [iI_le hw ⟨by omega, by omega⟩] at h9
        exact h9
    · rw [show (if 0 ≤ z ∧ z < 4 then (1 : Int) else 0) = 0 from if_neg u]
      exact h8 1 6 4 _ M [] _ _ 16 (iI 0) dX11_hopper_4 (by decide) (fun _ => hthr _) (fun h => absurd rfl h)
  show W p l e (pRm (d + 6) 1 6) s m _ below meth c s.heap [] 0 0 _ (entryFrame m (([.ref 2, .int (iI z), .int (iI w)] : List Value).map (pTv X)).toArray 3)
  rw [lg_entry_eq]
  exact hG s.heap _ [] 0 0 hW (pEnt_lr X (as := [.ref 2, .int (iI z), .int (iI w)]) (n := 3) (Nat.le_refl _) hl) (by rw [hml]; rfl) (fun q hq => by cases hq) (by omega) (by omega)
