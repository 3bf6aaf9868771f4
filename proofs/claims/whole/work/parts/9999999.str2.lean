/-! the text's methods, one by one -/
/-- a method's end with a small number -/
def pRx (Q : pQ) (cc : ByteArray) (rt : Option FieldType) (P : pP) : Prop := ∀ (kc ks pc : Nat) (ls : pL) (M : pM) (x : Int32) (ty : FieldType), decode cc pc = .ok (.ireturn, 1) → rt = some ty → narrow ty (.int x) = .int x → Q (some (.int x)) M → P kc ks pc ls [.int x] M
theorem sz_met2 {l : Launch} {X : pX} {d kc ks : Nat} {z : MethodName} (cc : ByteArray) (mL : Nat) (rt : Option FieldType) {as : List Value} {M : pM} {Q : pQ} (hcode : Cond.code z cc mL rt ∈ lw_tbl) (hpl : plainFor z = true) (hmL : mL ≤ 30) (hlen : (pSls as).length ≤ mL) (hini : z.name = "<init>" → rt = none)
    (hgo : ∀ (p : Program) (e : Env) (s : State) (m : MethodId) (below : List Frame) (meth : Method) (c : Code) (Qw : State → Prop) (args : Array Value), pE p (pRm (d + 1) kc ks) s m meth c d kc ks z cc → pTx X s → pRx Q cc rt (pG p l e (pRm (d + 1) kc ks) s m args below meth c Qw X kc ks) → pCl (pMz l X d) Q z cc rt (pG p l e (pRm (d + 1) kc ks) s m args below meth c Qw X kc ks) →
      pG p l e (pRm (d + 1) kc ks) s m args below meth c Qw X kc ks kc ks 0 (pEnt as mL) [] M) : pMz l X (d + 1) kc ks z as M Q := by
  refine sz_met hcode hpl hmL hlen hini (fun p e s m below meth c E hT hr hlk hP => hgo p e s m below meth c _ _ E hT ?_ hP)
  intro k1 k2 pc ls M2 x ty hd hty hn hq H arr locs cells slots hW hL hz hl hc hs
  refine W.widen (k := kc) (n := ks) (by omega) (by omega) ?_
  exact W.zret (ty := ty) E.1 E.2.1 (by rw [hr, hty]) hn (fun t ht hwm => ⟨some (.int x), M2, rfl, hq, by rw [ht]; exact hW.warm hwm⟩) hl hd
theorem nmJL : pNm yJ0_length_8abf5 0 := ⟨by decide +kernel, by decide +kernel, by decide +kernel, pIn 3 (by decide +kernel)⟩
theorem nmJA : pNm yJ0_charAt_5068e 1 := ⟨by decide +kernel, by decide +kernel, by decide +kernel, pIn 3 (by decide +kernel)⟩
theorem nmJC : pNm yJ0_coder_7d493 0 := ⟨by decide +kernel, by decide +kernel, by decide +kernel, pIn 3 (by decide +kernel)⟩
theorem nmJI : pNm yJ0_isLatin1_aae02 0 := ⟨by decide +kernel, by decide +kernel, by decide +kernel, pIn 3 (by decide +kernel)⟩
theorem nmJ1 : pNm yJ1_charAt_3b067 2 := ⟨by decide +kernel, by decide +kernel, by decide +kernel, pIn 4 (by decide +kernel)⟩
theorem nmJK : pNm yJ0_checkIndex_df160 2 := ⟨by decide +kernel, by decide +kernel, by decide +kernel, pIn 3 (by decide +kernel)⟩
theorem nmJ3 : pNm yJ3_checkIndex_8e157 3 := ⟨by decide +kernel, by decide +kernel, by decide +kernel, pIn 5 (by decide +kernel)⟩
def pP3 (X : pX) (M : pM) (i n : Nat) : Array Value → State → Prop := fun v U => (∃ w : Value, (w = .null ∨ ∃ t, w = .ref t) ∧ v = [Value.int (iI ((i : Nat) : Int)), .int (iI ((n : Nat) : Int)), w].toArray) ∧ pW X M U U.heap
theorem pP3_blind (X : pX) (M : pM) (i n : Nat) : FrameBlind (pP3 X M i n) := fun a U g mk q => ⟨q.1, (q.2).warm (u := U) (U := U.calling g mk a) (State.WarmedH.refl U)⟩
theorem go_J3 {C : pCt} {Q : pQ} {M : pM} {i n : Nat} {l2 : Option Value} (hi : i < n) (hn : n < 1000) (hQ : Q (some (.int (iI ((i : Nat) : Int)))) M) : Go C Q yJ3_checkIndex_8e157 cJ3_checkIndex_8e157 (some .int) 0 0 0 [some (.int (iI ((i : Nat) : Int))), some (.int (iI ((n : Nat) : Int))), l2] [] M := by
  refine r_iload0 (pc2 := 1) dJ3_checkIndex_8e157_0 rfl ?_
  refine r_iflt (tgt := 9) (pc2 := 4) dJ3_checkIndex_8e157_1 rfl (by decide) ⟨by omega, by omega⟩ (fun b => absurd b (by omega)) (fun _ => ?_)
  refine r_iload0 (pc2 := 5) dJ3_checkIndex_8e157_4 rfl ?_
  refine r_iload1 (pc2 := 6) dJ3_checkIndex_8e157_5 rfl ?_
  refine r_iclt (tgt := 16) (pc2 := 9) dJ3_checkIndex_8e157_6 rfl (by decide) ⟨by omega, by omega⟩ ⟨by omega, by omega⟩ (fun _ => ?_) (fun b => absurd b (by omega))
  refine r_iload0 (pc2 := 17) dJ3_checkIndex_8e157_16 rfl ?_
  exact r_ireti dJ3_checkIndex_8e157_17 rfl hQ
theorem mJ3 {l : Launch} {X : pX} {d i n : Nat} {M : pM} (hi : i < n) (hn : n < 1000) : Met l yJ3_checkIndex_8e157 [Cond.code yJ3_checkIndex_8e157 cJ3_checkIndex_8e157 3 (some .int)] (pRm (d + 1) 0 0) (pP3 X M i n) (pQc X (fun v M2 => v = some (.int (iI ((i : Nat) : Int))) ∧ M2 = M)) 0 0 (fun q => X.2.2.1.size ≤ q) := by
  refine va_MetF (cc := cJ3_checkIndex_8e157) (maxL := 3) (ret := some .int) (by decide) rfl ?_
  intro p e s m args below meth c s₁ B hml hv
  obtain ⟨⟨w, hw, rfl⟩, hW⟩ := hv
  have E : pE p (pRm (d + 1) 0 0) s m meth c d 0 0 yJ3_checkIndex_8e157 cJ3_checkIndex_8e157 := ⟨B.exec, B.bytes, findClass_of_methodNamed B.named, fun hi => (name_of_methodNamed B.named B.method).1.trans hi, Nat.le_refl _, Nat.le_refl _, by show d + 2 ≤ d + 1 + 1; omega, by show 60 * d + 160 ≤ 60 * (d + 1) + 100; omega⟩
  have hcl := sn_all (C := fun _ _ _ _ _ _ => False) E (fun _ _ _ _ _ _ h => h.elim) (sz_end (l := l) (e := e) (below := below) (args := [Value.int (iI ((i : Nat) : Int)), .int (iI ((n : Nat) : Int)), w].toArray) (X := X) (Q := fun v M2 => v = some (.int (iI ((i : Nat) : Int))) ∧ M2 = M) (d := d + 1) (kc := 0) (ks := 0) B.exec B.bytes B.returns B.notSynchronized)
  have hG := go_J3 (C := fun _ _ _ _ _ _ => False) (Q := (fun v M2 => v = some (.int (iI ((i : Nat) : Int))) ∧ M2 = M : pQ)) (M := M) (l2 := none) hi hn ⟨rfl, rfl⟩ _ hcl
  have hle : (lg_sl [Value.int (iI ((i : Nat) : Int)), .int (iI ((n : Nat) : Int)), w]).length ≤ 3 := by rcases hw with rfl | ⟨t, rfl⟩ <;> exact Nat.le_refl _
  have hl := lv_entry [Value.int (iI ((i : Nat) : Int)), .int (iI ((n : Nat) : Int)), w] (n := 3) hle
  show W p l e (pRm (d + 1) 0 0) s m [Value.int (iI ((i : Nat) : Int)), .int (iI ((n : Nat) : Int)), w].toArray below meth c s.heap [] 0 0 _ (entryFrame m [Value.int (iI ((i : Nat) : Int)), .int (iI ((n : Nat) : Int)), w].toArray 3)
  rw [lg_entry_eq]
  refine hG s.heap _ [] 0 0 hW ?_ (by rw [hml]; rfl) (fun q hq => by cases hq) (by omega) (by omega)
  exact lv_sub hl [0, 1] rfl
set_option maxHeartbeats 4000000 in
theorem mJK {l : Launch} {X : pX} {d i n : Nat} {M : pM} (hi : i < n) (hn : n < 1000) : pMz l X (d + 2) 0 0 yJ0_checkIndex_df160 [.int (iI ((i : Nat) : Int)), .int (iI ((n : Nat) : Int))] M (fun v M2 => v = none ∧ M2 = M) := by
  refine sz_met2 (d := d + 1) cJ0_checkIndex_df160 2 none (pIn 63 (by decide +kernel)) (by decide) (by decide) (Nat.le_of_ble_eq_true rfl) (by decide) ?_
  intro p e s m below meth c Qw args E hT hrx hP
  show pG p l e _ s m args below meth c Qw X 0 0 0 0 0 [some (.int (iI ((i : Nat) : Int))), some (.int (iI ((n : Nat) : Int)))] [] M
  refine hP.2.1 0 0 0 _ M _ _ _ 0 _ dJ0_checkIndex_df160_0 (Or.inl (⟨_, rfl, Or.inr ⟨0, rfl, rfl, rfl⟩⟩)) rfl ?_
  refine hP.2.1 0 0 1 _ M _ _ _ 1 _ dJ0_checkIndex_df160_1 (Or.inl (⟨_, rfl, Or.inr ⟨1, rfl, rfl, rfl⟩⟩)) rfl ?_
  intro H arr locs cells slots hW hL hz hl hc hs
  obtain ⟨adV, hTa⟩ := hT
  have fin : ∀ (r : Option Value) (M2 : pM) (H2 : Heap) (locs2 : List Loc), (r = some (.int (iI ((i : Nat) : Int))) ∧ M2 = M) → pW X M2 s H2 → (∀ q ∈ locs2, X.2.2.1.size ≤ q.base) → W p l e (pRm (d + 1 + 1) 0 0) s m args below meth c H2 locs2 (cells + 0) (slots + 0) Qw (F0 m (5 + 3) arr ((r.toList ++ []).map (pTv X))) := by
    rintro _ M2 H2 locs2 ⟨rfl, e2⟩ hW2 hl2
    have k : pG p l e (pRm (d + 1 + 1) 0 0) s m args below meth c Qw X 0 0 0 0 8 [some (.int (iI ((i : Nat) : Int))), some (.int (iI ((n : Nat) : Int)))] [.int (iI ((i : Nat) : Int))] M2 := by
      refine hP.2.2.2.2.2.2.1 0 0 8 _ M2 _ [] _ dJ0_checkIndex_df160_8 (Or.inr (Or.inr (Or.inr (Or.inr (Or.inr (Or.inr (Or.inr (Or.inl ⟨_, _, rfl, rfl, rfl, rfl⟩)))))))) ?_
      exact q_ret hP dJ0_checkIndex_df160_9 rfl ⟨rfl, e2⟩
    exact k H2 arr locs2 _ _ hW2 hL hz hl2 hc hs
  rcases hTa.2.2.2.1.kept hW.base with hZ | ⟨t, hZ⟩
  · refine xa_gets E.1 E.2.1 hZ E.2.2.1 (show (Cond.fieldLink "java/lang/String" 1053 "jdk/internal/util/Preconditions" "SIOOBE_FORMATTER" "Ljava/util/function/BiFunction;").before _ s = true from hW.1.use (pIn 64 (by decide +kernel)) rfl _) (fun x h => h) dJ0_checkIndex_df160_2 ?_
    exact sz_after2 (st := []) hW hl (sz_runS E (As := [.int (iI ((i : Nat) : Int)), .int (iI ((n : Nat) : Int)), .null]) (st := []) hW (hL.1.trans hz) (by omega) (by omega) (pIn 68 (by decide +kernel)) (by decide) (mJ3 (d := d) hi hn) (pP3_blind X M i n) (fun U hU hwm => ⟨⟨.null, Or.inl rfl, rfl⟩, by rw [hU]; exact hW.warm hwm⟩) (pIn 66 (by decide +kernel)) nmJ3 (pIn 67 (by decide +kernel)) rfl (by decide) dJ0_checkIndex_df160_5) fin
  · refine xa_gets E.1 E.2.1 hZ E.2.2.1 (show (Cond.fieldLink "java/lang/String" 1053 "jdk/internal/util/Preconditions" "SIOOBE_FORMATTER" "Ljava/util/function/BiFunction;").before _ s = true from hW.1.use (pIn 64 (by decide +kernel)) rfl _) (fun x h => h) dJ0_checkIndex_df160_2 ?_
    exact sz_after2 (st := []) hW hl (sz_runS E (As := [.int (iI ((i : Nat) : Int)), .int (iI ((n : Nat) : Int)), .ref t]) (st := []) hW (hL.1.trans hz) (by omega) (by omega) (pIn 68 (by decide +kernel)) (by decide) (mJ3 (d := d) hi hn) (pP3_blind X M i n) (fun U hU hwm => ⟨⟨.ref t, Or.inr ⟨t, rfl⟩, rfl⟩, by rw [hU]; exact hW.warm hwm⟩) (pIn 66 (by decide +kernel)) nmJ3 (pIn 67 (by decide +kernel)) rfl (by decide) dJ0_checkIndex_df160_5) fin
