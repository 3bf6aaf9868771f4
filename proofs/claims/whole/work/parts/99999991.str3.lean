/-! charAt and length of the text; the tape's and the works' constructors -/
def pP1 (X : pX) (adV : Nat) (M : pM) (i : Nat) : Array Value → State → Prop := fun v U => (v = [Value.ref adV, .int (iI ((i : Nat) : Int))].toArray ∧ pW X M U U.heap) ∧ pTa X adV U
theorem pP1_blind (X : pX) (adV : Nat) (M : pM) (i : Nat) : FrameBlind (pP1 X adV M i) := fun a U g mk q => ⟨⟨q.1.1, (q.1.2).warm (u := U) (U := U.calling g mk a) (State.WarmedH.refl U)⟩, q.2.warm (u := U) (U := U.calling g mk a) (State.WarmedH.refl U)⟩
theorem txB_c : ∀ i, i < 91 → ((((([txB].getD 0 []).getD i 0) &&& (Int16.ofInt 255).toInt32).toUInt32 % 65536).toInt32 = iI (txc i)) := by decide +kernel
theorem txB_n : ∀ i, i < 91 → narrow .char (.int (iI (txc i))) = .int (iI (txc i)) := by decide +kernel
set_option maxHeartbeats 4000000 in
theorem mJ1 {l : Launch} {X : pX} {d i adV : Nat} {M : pM} (hi : i < 91) : Met l yJ1_charAt_3b067 [Cond.code yJ1_charAt_3b067 cJ1_charAt_3b067 2 (some .char)] (pRm (d + 3) 0 0) (pP1 X adV M i) (pQc X (fun v M2 => v = some (.int (iI (txc i))) ∧ M2 = M)) 0 0 (fun q => X.2.2.1.size ≤ q) := by
  refine va_MetF (cc := cJ1_charAt_3b067) (maxL := 2) (ret := some .char) (by decide) rfl ?_
  intro p e s m args below meth c s₁ B hml hv
  obtain ⟨⟨rfl, hW⟩, hT⟩ := hv
  have E : pE p (pRm (d + 3) 0 0) s m meth c (d + 2) 0 0 yJ1_charAt_3b067 cJ1_charAt_3b067 := ⟨B.exec, B.bytes, findClass_of_methodNamed B.named, fun hi => (name_of_methodNamed B.named B.method).1.trans hi, Nat.le_refl _, Nat.le_refl _, by show d + 2 + 2 ≤ d + 3 + 1; omega, by show 60 * (d + 2) + 160 ≤ 60 * (d + 3) + 100; omega⟩
  have hr := B.returns
  have hlocks := B.notSynchronized
  have hl := lv_entry [Value.ref adV, .int (iI ((i : Nat) : Int))] (n := 2) (Nat.le_refl _)
  show W p l e (pRm (d + 3) 0 0) s m [Value.ref adV, .int (iI ((i : Nat) : Int))].toArray below meth c s.heap [] 0 0 _ (entryFrame m [Value.ref adV, .int (iI ((i : Nat) : Int))].toArray 2)
  rw [lg_entry_eq]
  have hb0 : ∀ {M2 : pM} {H2 : Heap}, pW X M2 s H2 → va_T .byte adV 91 (fun j => .int (([txB].getD 0 []).getD j 0)) (xA X) s H2 := fun h => ((hT.2.1.kept h.base).1 0 (by decide)).2.2.2
  refine lv_iload_n B.exec B.bytes dJ1_charAt_3b067_0 rfl (lv_at hl 1 rfl) ?_
  refine lv_aload_n B.exec B.bytes dJ1_charAt_3b067_1 rfl (lv_at hl 0 rfl) ?_
  refine xa_tlen B.exec B.bytes (hb0 hW) (v := iI ((91 : Nat) : Int)) rfl dJ1_charAt_3b067_2 ?_
  obtain ⟨cc2, mL, rt2, q1, q2, q3, q4⟩ := mJK (l := l) (X := X) (d := d) (M := M) hi (by decide)
  refine sz_after2 (st := []) (X := X) hW (fun q hq => by cases hq) (sz_runS E (As := [.int (iI ((i : Nat) : Int)), .int (iI ((91 : Nat) : Int))]) (st := []) hW (hl.1.trans hml.symm) (by omega) (by omega) q1 q2 q4 (pPx_blind X _ M) (fun U hU hwm => ⟨⟨rfl, by rw [hU]; exact hW.warm hwm⟩, adV, hT.warm hwm⟩) (pIn 61 (by decide +kernel)) nmJK (pIn 62 (by decide +kernel)) rfl (by decide) dJ1_charAt_3b067_3) ?_
  rintro _ M2 H2 locs2 ⟨rfl, e2⟩ hW2 hl2
  refine lv_aload_n B.exec B.bytes dJ1_charAt_3b067_6 rfl (lv_at hl 0 rfl) ?_
  refine lv_iload_n B.exec B.bytes dJ1_charAt_3b067_7 rfl (lv_at hl 1 rfl) ?_
  refine xa_tb B.exec B.bytes (hb0 hW2) (by rw [iI_nat]; exact pIn_lt hi (by decide)) (v := .int (([txB].getD 0 []).getD i 0)) (by rw [iI_nat, nI_clamp (by omega)]) dJ1_charAt_3b067_8 ?_
  refine lv_sipush B.exec B.bytes dJ1_charAt_3b067_9 rfl ?_
  refine lv_iand B.exec B.bytes dJ1_charAt_3b067_12 ?_
  refine lv_i2c B.exec B.bytes dJ1_charAt_3b067_13 (txB_c i hi) ?_
  exact W.zret (ty := .char) B.exec B.bytes hr (txB_n i hi) (fun t ht hwm => ⟨some (.int (iI (txc i))), M, rfl, ⟨rfl, rfl⟩, by rw [ht]; rw [e2] at hW2; exact hW2.warm hwm⟩) hl2 dJ1_charAt_3b067_14
section XC
variable {p : Program} {l : Launch} {e : Env} {R : Room} {s : State} {m : MethodId} {args : Array Value} {below : List Frame} {meth : Method} {c : Code} {Qw : State → Prop} {X : pX} {d cx sx kc ks pc : Nat} {y : MethodName} {cc : ByteArray} {ls : pL} {st : List Value} {M : pM}
theorem sx_gets (E : pE p R s m meth c d cx sx y cc) (hy : y.cls = "java/lang/String") (hT : pTx X s) (hd : decode cc pc = .ok (.getstatic 38, 3)) (g : pG p l e R s m args below meth c Qw X cx sx kc ks (pc + 3) ls (.int (iI 1) :: st) M) : pG p l e R s m args below meth c Qw X cx sx kc ks pc ls st M := by
  intro H arr locs cells slots hW hL hz hl hc hs
  obtain ⟨adV, hTa⟩ := hT
  exact xa_gets (own := "java/lang/String") (ref := "java/lang/String") E.1 E.2.1 (hTa.2.2.1.kept hW.base) (by rw [← hy]; exact E.2.2.1) (hW.1.use (pIn 48 (by decide +kernel)) rfl args) (fun x h => h) hd (g H arr locs cells slots hW hL hz hl hc hs)
theorem sx_cod (E : pE p R s m meth c d cx sx y cc) (hy : y.cls = "java/lang/String") (hT : pTx X s) (hd : decode cc pc = .ok (.getfield 15, 3)) (g : pG p l e R s m args below meth c Qw X cx sx kc ks (pc + 3) ls (.int (iI 0) :: st) M) : pG p l e R s m args below meth c Qw X cx sx kc ks pc ls (.ref 1 :: st) M := by
  intro H arr locs cells slots hW hL hz hl hc hs
  obtain ⟨adV, hTa⟩ := hT
  exact xa_getf (own := "java/lang/String") (ref := "java/lang/String") E.1 E.2.1 ((hTa.2.1.kept hW.base).1 0 (by decide)).2.1 (by rw [← hy]; exact E.2.2.1) (hW.1.use (pIn 1588 (by decide +kernel)) rfl args) (fun x h => h) hd (g H arr locs cells slots hW hL hz hl hc hs)
theorem sx_len (E : pE p R s m meth c d cx sx y cc) (hy : y.cls = "java/lang/String") (hT : pTx X s) (hd : decode cc pc = .ok (.getfield 9, 3)) (hd2 : decode cc (pc + 3) = .ok (.arraylength, 1)) (g : pG p l e R s m args below meth c Qw X cx sx kc ks (pc + 3 + 1) ls (.int (iI ((91 : Nat) : Int)) :: st) M) : pG p l e R s m args below meth c Qw X cx sx kc ks pc ls (.ref 1 :: st) M := by
  intro H arr locs cells slots hW hL hz hl hc hs
  obtain ⟨adV, hTa⟩ := hT
  have h9 := (hTa.2.1.kept hW.base).1 0 (by decide)
  refine xa_getf (own := "java/lang/String") (ref := "java/lang/String") E.1 E.2.1 h9.2.2.1 (by rw [← hy]; exact E.2.2.1) (hW.1.use (pIn 1587 (by decide +kernel)) rfl args) (fun x h => h) hd ?_
  exact xa_tlen E.1 E.2.1 h9.2.2.2 (v := iI ((91 : Nat) : Int)) rfl hd2 (g H arr locs cells slots hW hL hz hl hc hs)
end XC
set_option maxHeartbeats 4000000 in
theorem mJC {l : Launch} {X : pX} {d : Nat} {M : pM} : pMz l X (d + 1) 0 0 yJ0_coder_7d493 [.ref 1] M (fun v M2 => v = some (.int (iI 0)) ∧ M2 = M) := by
  refine sz_met2 (d := d) cJ0_coder_7d493 1 (some .byte) (pIn 47 (by decide +kernel)) (by decide) (by decide) (Nat.le_of_ble_eq_true rfl) (by decide) ?_
  intro p e s m below meth c Qw args E hT hrx hP
  show pG p l e _ s m args below meth c Qw X 0 0 0 0 0 [some (.ref 1)] [] M
  refine sx_gets E rfl hT dJ0_coder_7d493_0 ?_
  refine hP.2.2.2.2.2.2.2.1 0 0 3 _ M _ _ _ 13 (iI 1) dJ0_coder_7d493_3 (by decide) (fun h => absurd (show iI 1 = 0 from h) (by decide)) (fun _ => ?_)
  refine q_aload0 hP (pc2 := 7) dJ0_coder_7d493_6 rfl ?_
  refine sx_cod E rfl hT dJ0_coder_7d493_7 ?_
  refine q_goto hP (tgt := 14) dJ0_coder_7d493_10 (by decide) ?_
  exact hrx 0 0 14 _ M (iI 0) .byte dJ0_coder_7d493_14 rfl (by decide) ⟨rfl, rfl⟩
set_option maxHeartbeats 4000000 in
theorem mJI {l : Launch} {X : pX} {d : Nat} {M : pM} : pMz l X (d + 1) 0 0 yJ0_isLatin1_aae02 [.ref 1] M (fun v M2 => v = some (.int (iI 1)) ∧ M2 = M) := by
  refine sz_met2 (d := d) cJ0_isLatin1_aae02 1 (some .boolean) (pIn 57 (by decide +kernel)) (by decide) (by decide) (Nat.le_of_ble_eq_true rfl) (by decide) ?_
  intro p e s m below meth c Qw args E hT hrx hP
  show pG p l e _ s m args below meth c Qw X 0 0 0 0 0 [some (.ref 1)] [] M
  refine sx_gets E rfl hT dJ0_isLatin1_aae02_0 ?_
  refine hP.2.2.2.2.2.2.2.1 0 0 3 _ M _ _ _ 17 (iI 1) dJ0_isLatin1_aae02_3 (by decide) (fun h => absurd (show iI 1 = 0 from h) (by decide)) (fun _ => ?_)
  refine q_aload0 hP (pc2 := 7) dJ0_isLatin1_aae02_6 rfl ?_
  refine sx_cod E rfl hT dJ0_isLatin1_aae02_7 ?_
  refine hP.2.2.2.2.2.2.2.1 0 0 10 _ M _ _ _ 17 (iI 0) dJ0_isLatin1_aae02_10 (by decide) (fun h => absurd rfl h) (fun _ => ?_)
  refine q_iconst hP (pc2 := 14) dJ0_isLatin1_aae02_13 rfl ?_
  refine q_goto hP (tgt := 18) dJ0_isLatin1_aae02_14 (by decide) ?_
  exact hrx 0 0 18 _ M (iI 1) .boolean dJ0_isLatin1_aae02_18 rfl (by decide) ⟨rfl, rfl⟩
/-- a call on the text, out of its contract -/
theorem sx_call {p : Program} {l : Launch} {e : Env} {R : Room} {s : State} {m : MethodId} {args : Array Value} {below : List Frame} {meth : Method} {c : Code} {Qw : State → Prop} {X : pX} {d cx sx kc ks pc idx n : Nat} {y z : MethodName} {cc : ByteArray} {ls : pL} {st as : List Value} {M : pM} {Q2 : pQ} (E : pE p R s m meth c d cx sx y cc) (hT : pTx X s) (hcls : z.cls = "java/lang/String") (hM : pMz l X d 0 0 z (.ref 1 :: as) M Q2) (hlk : Cond.methodLink y.cls idx z ∈ lw_tbl) (hnm : pNm z n) (hinst : Cond.instanceMethod z ∈ lw_tbl) (hsel : Cond.selects z.cls z z ∈ lw_tbl) (hn : as.length = n) (hst : pCat st ≤ 8) (hd : decode cc pc = .ok (.invokevirtual idx, 3))
    (g : ∀ (r : Option Value) (M2 : pM), Q2 r M2 → pG p l e R s m args below meth c Qw X cx sx kc ks (pc + 3) ls (r.toList ++ st) M2) : pG p l e R s m args below meth c Qw X cx sx kc ks pc ls (as.reverse ++ .ref 1 :: st) M := by
  intro H arr locs cells slots hW hL hz hl hc hs
  obtain ⟨cc2, mL, rt2, q1, q2, q3, q4⟩ := hM
  have hfull : (as.reverse ++ .ref 1 :: st).map (pTv X) = (as.map (pTv X)).reverse ++ .ref X.2.1 :: st.map (pTv X) := by simp [List.map_append, List.map_reverse, pTv, pAd]
  rw [hfull]
  refine sz_after2 (st := st) hW hl (sz_runT E (As := as.map (pTv X)) (st := st) hT hW (hL.1.trans hz) (by omega) (by omega) hcls q1 q2 q4 (pPx_blind X _ M) (fun U hU hwm => ⟨⟨rfl, by rw [hU]; exact hW.warm hwm⟩, hT.warm hwm⟩) hlk hnm hinst hsel (by rw [List.length_map]; exact hn) hst hd) ?_
  intro r M2 H2 locs2 hq hW2 hl2
  exact g r M2 hq H2 arr locs2 _ _ hW2 hL hz hl2 (by omega) (by omega)
set_option maxHeartbeats 4000000 in
theorem mJL {l : Launch} {X : pX} {d : Nat} {M : pM} : pMz l X (d + 2) 0 0 yJ0_length_8abf5 [.ref 1] M (fun v M2 => v = some (.int (iI 91)) ∧ M2 = M) := by
  refine sz_met2 (d := d + 1) cJ0_length_8abf5 1 (some .int) (pIn 43 (by decide +kernel)) (by decide) (by decide) (Nat.le_of_ble_eq_true rfl) (by decide) ?_
  intro p e s m below meth c Qw args E hT hrx hP
  show pG p l e _ s m args below meth c Qw X 0 0 0 0 0 [some (.ref 1)] [] M
  refine q_aload0 hP (pc2 := 1) dJ0_length_8abf5_0 rfl ?_
  refine sx_len E rfl hT dJ0_length_8abf5_1 dJ0_length_8abf5_4 ?_
  refine q_aload0 hP (pc2 := 6) dJ0_length_8abf5_5 rfl ?_
  refine sx_call (as := []) (n := 0) E hT rfl (mJC (d := d)) (pIn 44 (by decide +kernel)) nmJC (pIn 45 (by decide +kernel)) (pIn 46 (by decide +kernel)) rfl (by decide) dJ0_length_8abf5_6 ?_
  rintro _ M2 ⟨rfl, e2⟩
  refine hP.2.2.2.2.1 0 0 9 _ M2 _ [.int (iI 91)] _ dJ0_length_8abf5_9 (Or.inr (Or.inr (Or.inr (Or.inr (Or.inr (Or.inr (Or.inr (Or.inl ⟨iI ((91 : Nat) : Int), iI 0, [], rfl, rfl, by decide⟩)))))))) ?_
  exact hrx 0 0 10 _ M2 (iI 91) .int dJ0_length_8abf5_10 rfl (by decide) ⟨rfl, e2⟩
set_option maxHeartbeats 4000000 in
theorem mJA {l : Launch} {X : pX} {d i : Nat} {M : pM} (hi : i < 91) : pMz l X (d + 4) 0 0 yJ0_charAt_5068e [.ref 1, .int (iI ((i : Nat) : Int))] M (fun v M2 => v = some (.int (iI (txc i))) ∧ M2 = M) := by
  refine sz_met2 (d := d + 3) cJ0_charAt_5068e 2 (some .char) (pIn 53 (by decide +kernel)) (by decide) (by decide) (Nat.le_of_ble_eq_true rfl) (by decide) ?_
  intro p e s m below meth c Qw args E hT hrx hP
  show pG p l e _ s m args below meth c Qw X 0 0 0 0 0 [some (.ref 1), some (.int (iI ((i : Nat) : Int)))] [] M
  refine q_aload0 hP (pc2 := 1) dJ0_charAt_5068e_0 rfl ?_
  refine sx_call (as := []) (n := 0) E hT rfl (mJI (d := d + 2)) (pIn 54 (by decide +kernel)) nmJI (pIn 55 (by decide +kernel)) (pIn 56 (by decide +kernel)) rfl (by decide) dJ0_charAt_5068e_1 ?_
  rintro _ M2 ⟨rfl, e2⟩
  refine hP.2.2.2.2.2.2.2.1 0 0 4 _ M2 _ _ _ 16 (iI 1) dJ0_charAt_5068e_4 (by decide) (fun h => absurd (show iI 1 = 0 from h) (by decide)) (fun _ => ?_)
  refine q_aload0 hP (pc2 := 8) dJ0_charAt_5068e_7 rfl ?_
  intro H arr locs cells slots hW hL hz hl hc hs
  obtain ⟨adV, hTa⟩ := hT
  have h9 := (hTa.2.1.kept hW.base).1 0 (by decide)
  refine xa_getf (own := "java/lang/String") (ref := "java/lang/String") E.1 E.2.1 h9.2.2.1 (show s.vm.findClass "java/lang/String" = _ from E.2.2.1) (hW.1.use (pIn 1587 (by decide +kernel)) rfl args) (fun x h => h) dJ0_charAt_5068e_8 ?_
  refine lv_iload_n E.1 E.2.1 dJ0_charAt_5068e_11 rfl (hL.get (k := 1) rfl) ?_
  refine sz_after2 (st := []) hW hl (sz_runS E (As := [.ref adV, .int (iI ((i : Nat) : Int))]) (st := []) hW (hL.1.trans hz) (by omega) (by omega) (pIn 60 (by decide +kernel)) (by decide) (mJ1 (d := d) (adV := adV) (M := M2) hi) (pP1_blind X adV M2 i) (fun U hU hwm => ⟨⟨rfl, by rw [hU]; exact hW.warm hwm⟩, hTa.warm hwm⟩) (pIn 58 (by decide +kernel)) nmJ1 (pIn 59 (by decide +kernel)) rfl (by decide) dJ0_charAt_5068e_12) ?_
  rintro _ M3 H3 locs3 ⟨rfl, e3⟩ hW3 hl3
  exact (hrx 0 0 15 [some (.ref 1), some (.int (iI ((i : Nat) : Int)))] M3 (iI (txc i)) .char dJ0_charAt_5068e_15 rfl (txB_n i hi) ⟨rfl, e3.trans e2⟩) H3 arr locs3 _ _ hW3 hL hz hl3 hc hs
set_option maxHeartbeats 4000000 in
/-- the tape's constructor -/
theorem mX8 {l : Launch} {X : pX} {d : Nat} {M : pM} (hf : FR M 3 8) : pMz l X (d + 5) 5 4021 yX8_init [.ref 3] M (fun v M2 => v = none ∧ GW M M2 3 9 ∧ cWd M2) := by
  refine sz_met2 (d := d + 4) cX8_init 3 none (pIn 37 (by decide +kernel)) (by decide) (by decide) (Nat.le_of_ble_eq_true rfl) (by decide) ?_
  intro p e s m below meth c Qw args E hT hrx hP
  show pG p l e _ s m args below meth c Qw X 5 4021 5 4021 0 [some (.ref 3), none, none] [] M
  refine pp_X8_init hP ⟨?_, ?_, ?_⟩ hf (fun M2 h1 h2 => ⟨rfl, h1, h2⟩)
  · intro kc ks pc ls M1 st hd g H arr locs cells slots hW hL hz hl hc hs
    obtain ⟨adV, hTa⟩ := hT
    exact va_ldcS E.1 E.2.1 E.2.2.1 hTa.1 hd (g H arr locs cells slots hW hL hz hl hc hs)
  · intro kc ks pc ls M1 st hd hst g
    refine sx_call (as := []) (n := 0) E hT rfl (mJL (d := d + 2)) (pIn 40 (by decide +kernel)) nmJL (pIn 41 (by decide +kernel)) (pIn 42 (by decide +kernel)) rfl hst hd ?_
    rintro _ M2 ⟨rfl, e2⟩
    rw [e2]; exact g
  · intro kc ks pc ls M1 st i hd hi hst g
    refine sx_call (as := [.int (iI ((i : Nat) : Int))]) (n := 1) E hT rfl (mJA (d := d) hi) (pIn 50 (by decide +kernel)) nmJA (pIn 51 (by decide +kernel)) (pIn 52 (by decide +kernel)) rfl hst hd ?_
    rintro _ M2 ⟨rfl, e2⟩
    rw [e2]; exact g
/-- the works' constructor -/
theorem mX11 {l : Launch} {X : pX} {d : Nat} {M : pM} (hf : FR M 2 11) : pMz l X (d + 11) 314 62274 yX11_init [.ref 2] M (fun v M2 => v = none ∧ CO M M2) := by
  refine sz_met2 (d := d + 10) cX11_init 2 none (pIn 29 (by decide +kernel)) (by decide) (by decide) (Nat.le_of_ble_eq_true rfl) (by decide) ?_
  intro p e s m below meth c Qw args E hT hrx hP
  exact go_X11_init (C := pMz l X (d + 10)) (fun kc ks z as M Q h => pMz.le1 h (by omega)) (fun M h => mX8 (d := d + 5) h) hf (fun M2 h => ⟨rfl, h⟩) _ hP
