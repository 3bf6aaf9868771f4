theorem iI_byte {x : Int} (h1 : -128 ≤ x) (h2 : x ≤ 127) : (iI x).toInt8.toInt32 = iI x := by
  have key : ∀ k : Fin 256, (iI ((k.val : Int) - 128)).toInt8.toInt32 = iI ((k.val : Int) - 128) := by decide +kernel
  have := key ⟨(x + 128).toNat, by omega⟩
  simp only at this
  rw [show (((x + 128).toNat : Nat) : Int) - 128 = x by omega] at this
  exact this
theorem pIn_lt {i n : Nat} (h : i < n) (hn : n < 2 ^ 31) : ¬ (nI i < 0 ∨ n ≤ (nI i).toNatClampNeg) := nI_in h hn
theorem pArr_cell {X : pX} {M : pM} {U : State} {H : Heap} {a t n : Nat} (hK : M.1.2.1 a = (t, n)) (h2 : 2 ≤ t) (h6 : t ≤ 6) (h : pArr X M U H a t n) : pCell X M U H a := by
  refine ⟨fun c e => ?_, fun t' n' e _ _ => ?_, fun n' e => ?_⟩
  · cases hK.symm.trans e; omega
  · cases hK.symm.trans e; exact h
  · cases hK.symm.trans e; omega
section SNC
variable {p : Program} {l : Launch} {e : Env} {R : Room} {s : State} {m : MethodId} {args : Array Value} {below : List Frame} {meth : Method} {c : Code} {Qw : State → Prop} {X : pX} {d cx sx : Nat} {C : pCt} {Q : pQ} {y : MethodName} {cc : ByteArray} {rt : Option FieldType}
theorem sn_alen (E : pE p R s m meth c d cx sx y cc) : pr_alen C Q y cc rt (pG p l e R s m args below meth c Qw X cx sx) := by
  intro kc ks pc ls M st a n t hd hK ht g H arr locs cells slots hW hL hz hl hc hs
  have kk := g H arr locs cells slots hW hL hz hl hc hs
  obtain ⟨hx, hb, hown, hnm, -⟩ := E
  have key : 2 ≤ t → t ≤ 6 → W p l e R s m args below meth c H locs cells slots Qw (F0 m pc arr ((Value.ref a :: st).map (pTv X))) := by
    intro h2 h6
    obtain ⟨hn, cA, k1, k2, k3⟩ := (hW.2.2.2.2.2.2 a).2.1 t n hK h2 h6
    exact W.alen hx hb k3 (k1 n _) (by rw [arrV_size, iI_nat]; rfl) rfl rfl hd kk
  rcases ht with rfl | rfl | rfl | rfl | rfl | rfl
  · exact key (by omega) (by omega)
  · exact key (by omega) (by omega)
  · exact key (by omega) (by omega)
  · exact key (by omega) (by omega)
  · exact key (by omega) (by omega)
  · obtain ⟨hn, scr, k1, k2, k3, k4, k5⟩ := (hW.2.2.2.2.2.2 a).2.2 n hK
    exact W.alen hx hb k1 k2 (by rw [k4, iI_nat]; rfl) rfl rfl hd kk
theorem sn_iald (E : pE p R s m meth c d cx sx y cc) : pr_iald C Q y cc rt (pG p l e R s m args below meth c Qw X cx sx) := by
  intro kc ks pc ls M st a n i j t hd hK ht hj hi g H arr locs cells slots hW hL hz hl hc hs
  have kk := g H arr locs cells slots hW hL hz hl hc hs
  obtain ⟨hx, hb, hown, hnm, -⟩ := E
  rw [iI_nat] at hj
  subst hj
  rcases ht with rfl | rfl
  · obtain ⟨hn, cA, k1, k2, k3⟩ := (hW.2.2.2.2.2.2 a).2.1 2 n hK (by omega) (by omega)
    exact W.iald hx hb k3 (k1 n _) (fun q => by cases q) (by rw [arrV_size]; exact pIn_lt hi hn) (by rw [nI_clamp (by omega), arrV_read _ _ hi]; rfl) rfl rfl hd kk
  · obtain ⟨hn, scr, k1, k2, k3, k4, k5⟩ := (hW.2.2.2.2.2.2 a).2.2 n hK
    exact W.iald hx hb k1 k2 k3 (by rw [k4]; exact pIn_lt hi hn) (by rw [nI_clamp (by omega), k5 i hi]; rfl) rfl rfl hd kk
theorem sn_bald (E : pE p R s m meth c d cx sx y cc) : pr_bald C Q y cc rt (pG p l e R s m args below meth c Qw X cx sx) := by
  intro kc ks pc ls M st a n i j t hd hK ht hj hi g H arr locs cells slots hW hL hz hl hc hs
  have kk := g H arr locs cells slots hW hL hz hl hc hs
  obtain ⟨hx, hb, hown, hnm, -⟩ := E
  rw [iI_nat] at hj
  subst hj
  rcases ht with rfl | rfl
  · obtain ⟨hn, cA, k1, k2, k3⟩ := (hW.2.2.2.2.2.2 a).2.1 4 n hK (by omega) (by omega)
    exact W.bald hx hb k3 (k1 n _) (fun q => by cases q) (by rw [arrV_size]; exact pIn_lt hi hn) (by rw [nI_clamp (by omega), arrV_read _ _ hi]; rfl) rfl rfl hd kk
  · obtain ⟨hn, cA, k1, k2, k3⟩ := (hW.2.2.2.2.2.2 a).2.1 5 n hK (by omega) (by omega)
    exact W.zald hx hb k3 (k1 n _) (fun q => by cases q) (by rw [arrV_size]; exact pIn_lt hi hn) (by rw [nI_clamp (by omega), arrV_read _ _ hi]; rfl) rfl rfl hd kk
theorem sn_lald (E : pE p R s m meth c d cx sx y cc) : pr_lald C Q y cc rt (pG p l e R s m args below meth c Qw X cx sx) := by
  intro kc ks pc ls M st a n i j hd hK hj hi g H arr locs cells slots hW hL hz hl hc hs
  have kk := g H arr locs cells slots hW hL hz hl hc hs
  obtain ⟨hx, hb, hown, hnm, -⟩ := E
  rw [iI_nat] at hj
  subst hj
  obtain ⟨hn, cA, k1, k2, k3⟩ := (hW.2.2.2.2.2.2 a).2.1 3 n hK (by omega) (by omega)
  exact W.lald hx hb k3 (k1 n _) (fun q => by cases q) (by rw [arrV_size]; exact pIn_lt hi hn) (by rw [nI_clamp (by omega), arrV_read _ _ hi]; rfl) rfl rfl hd kk
theorem sn_aald (E : pE p R s m meth c d cx sx y cc) : pr_aald C Q y cc rt (pG p l e R s m args below meth c Qw X cx sx) := by
  intro kc ks pc ls M st a n i j b hd hK hR hj hi g H arr locs cells slots hW hL hz hl hc hs
  have kk := g H arr locs cells slots hW hL hz hl hc hs
  obtain ⟨hx, hb, hown, hnm, -⟩ := E
  rw [iI_nat] at hj
  subst hj
  obtain ⟨hn, cA, k1, k2, k3⟩ := (hW.2.2.2.2.2.2 a).2.1 6 n hK (by omega) (by omega)
  have e1 : pAv X M 6 a i = .ref (pAd X b) := by simp [pAv, hR, pRf]
  exact W.aald hx hb k3 (k1 n _) rfl (fun q => by cases q) (by rw [arrV_size]; exact pIn_lt hi hn) (by rw [nI_clamp (by omega), arrV_read _ _ hi, e1]; rfl) rfl rfl hd kk
theorem sn_iast (E : pE p R s m meth c d cx sx y cc) : pr_iast C Q y cc rt (pG p l e R s m args below meth c Qw X cx sx) := by
  intro kc ks pc ls M st a n i j x hd hK ha hj hi g H arr locs cells slots hW hL hz hl hc hs
  obtain ⟨hx, hb, hown, hnm, -⟩ := E
  rw [iI_nat] at hj
  subst hj
  obtain ⟨hn, cA, k1, k2, k3⟩ := (hW.2.2.2.2.2.2 a).2.1 2 n hK (by omega) (by omega)
  refine W.iast hx hb k3 (k1 n _) (fun q => by cases q) (by rw [arrV_size]; exact pIn_lt hi hn) rfl rfl hd (fun H2 e1 z1 z2 => ?_)
  rw [nI_clamp (by omega)] at e1 ⊢
  refine g H2 arr _ cells slots (hW.set (a := a) ha rfl rfl (fun b hb => by simp only [pI, pU, if_neg hb]) (fun b hb => rfl) (fun b hb => rfl) z1 z2 (pArr_cell hK (by omega) (by omega) ⟨hn, cA, k1, k2, ?_⟩)) hL hz (pLocs hl ha) hc hs
  rw [e1, arrV_store]
  congr 2
  funext q
  simp only [updV, pAv, pI, pU, va_up]
  by_cases hq : q = i <;> simp [hq, va_up]
theorem sn_bast (E : pE p R s m meth c d cx sx y cc) : pr_bast C Q y cc rt (pG p l e R s m args below meth c Qw X cx sx) := by
  intro kc ks pc ls M st a n i j x hd hK ha hj hi g H arr locs cells slots hW hL hz hl hc hs
  obtain ⟨hx, hb, hown, hnm, -⟩ := E
  rw [iI_nat] at hj
  subst hj
  rcases hK with ⟨hK, hx8⟩ | ⟨hK, hx8⟩
  · obtain ⟨hn, cA, k1, k2, k3⟩ := (hW.2.2.2.2.2.2 a).2.1 4 n hK (by omega) (by omega)
    refine W.bast hx hb k3 (k1 n _) (fun q => by cases q) (by rw [arrV_size]; exact pIn_lt hi hn) rfl rfl hd (fun H2 e1 z1 z2 => ?_)
    rw [nI_clamp (by omega)] at e1 ⊢
    have e0 : narrow .byte (.int (iI x)) = .int (iI x) := by show Value.int (iI x).toInt8.toInt32 = _; rw [iI_byte hx8.1 hx8.2]
    rw [e0] at e1
    refine g H2 arr _ cells slots (hW.set (a := a) ha rfl rfl (fun b hb => by simp only [pI, pU, if_neg hb]) (fun b hb => rfl) (fun b hb => rfl) z1 z2 (pArr_cell hK (by omega) (by omega) ⟨hn, cA, k1, k2, ?_⟩)) hL hz (pLocs hl ha) hc hs
    rw [e1, arrV_store]
    congr 2
    funext q
    simp only [updV, pAv, pI, pU, va_up]
    by_cases hq : q = i <;> simp [hq, va_up]
  · obtain ⟨hn, cA, k1, k2, k3⟩ := (hW.2.2.2.2.2.2 a).2.1 5 n hK (by omega) (by omega)
    refine W.zast hx hb k3 (k1 n _) (fun q => by cases q) (by rw [arrV_size]; exact pIn_lt hi hn) rfl rfl hd (fun H2 e1 z1 z2 => ?_)
    rw [nI_clamp (by omega)] at e1 ⊢
    have e0 : narrow .boolean (.int (iI x)) = .int (iI x) := by rcases hx8 with rfl | rfl <;> rfl
    rw [e0] at e1
    refine g H2 arr _ cells slots (hW.set (a := a) ha rfl rfl (fun b hb => by simp only [pI, pU, if_neg hb]) (fun b hb => rfl) (fun b hb => rfl) z1 z2 (pArr_cell hK (by omega) (by omega) ⟨hn, cA, k1, k2, ?_⟩)) hL hz (pLocs hl ha) hc hs
    rw [e1, arrV_store]
    congr 2
    funext q
    simp only [updV, pAv, pI, pU, va_up]
    by_cases hq : q = i <;> simp [hq, va_up]
theorem sn_last (E : pE p R s m meth c d cx sx y cc) : pr_last C Q y cc rt (pG p l e R s m args below meth c Qw X cx sx) := by
  intro kc ks pc ls M st a n i j x hd hK ha hj hi g H arr locs cells slots hW hL hz hl hc hs
  obtain ⟨hx, hb, hown, hnm, -⟩ := E
  rw [iI_nat] at hj
  subst hj
  obtain ⟨hn, cA, k1, k2, k3⟩ := (hW.2.2.2.2.2.2 a).2.1 3 n hK (by omega) (by omega)
  refine W.last hx hb k3 (k1 n _) (fun q => by cases q) (by rw [arrV_size]; exact pIn_lt hi hn) rfl rfl hd (fun H2 e1 z1 z2 => ?_)
  rw [nI_clamp (by omega)] at e1 ⊢
  refine g H2 arr _ cells slots (hW.set (a := a) ha rfl rfl (fun b hb => rfl) (fun b hb => by simp only [pJ, pU, if_neg hb]) (fun b hb => rfl) z1 z2 (pArr_cell hK (by omega) (by omega) ⟨hn, cA, k1, k2, ?_⟩)) hL hz (pLocs hl ha) hc hs
  rw [e1, arrV_store]
  congr 2
  funext q
  simp only [updV, pAv, pJ, pU, va_up]
  by_cases hq : q = i <;> simp [hq, va_up]
theorem sn_aast (E : pE p R s m meth c d cx sx y cc) : pr_aast C Q y cc rt (pG p l e R s m args below meth c Qw X cx sx) := by
  intro kc ks pc ls M st a n i j b hd hK ha hKb hj hi g H arr locs cells slots hW hL hz hl hc hs
  obtain ⟨hx, hb, hown, hnm, -⟩ := E
  rw [iI_nat] at hj
  subst hj
  obtain ⟨hn, cA, k1, k2, k3⟩ := (hW.2.2.2.2.2.2 a).2.1 6 n hK (by omega) (by omega)
  obtain ⟨q, hq, cellV, g1, g2, g3, -⟩ := (hW.2.2.2.2.2.2 b).1 0 hKb
  have hqe : q = (RX0, TX0, 13) := Option.some.inj (hq.symm.trans rfl)
  subst hqe
  have hcls := (hW.2.1 0 _ hq).2
  have k2' := k2
  obtain ⟨kA, comp, r1, r2, r3, -⟩ := k2
  have hcomp : comp = X.2.2.2.1 0 := Option.some.inj (r3.symm.trans hcls.1)
  subst hcomp
  obtain ⟨kC, hkC, hkind⟩ := hcls.2
  refine W.aast hx hb k3 (fun q h => by cases h) (fun h => by cases h) r1 r2 rfl hkC ⟨nI_pos (by omega), by rw [arrV_size, nI_clamp (by omega)]; exact hi⟩ g1 (fun q h => by rw [g3] at h; cases h) (by rw [g2]; exact hkC) (by rw [g2]; exact va_assign hcls) rfl rfl hd (fun H2 e1 z1 z2 => ?_)
  rw [nI_clamp (by omega)] at e1 ⊢
  refine g H2 arr _ cells slots (hW.set (a := a) ha rfl rfl (fun b hb => rfl) (fun b hb => rfl) (fun b hb => by simp only [pR, pU, if_neg hb]) z1 z2 (pArr_cell hK (by omega) (by omega) ⟨hn, cA, k1, k2', ?_⟩)) hL hz (pLocs hl ha) hc hs
  rw [e1, arrV_store]
  congr 2
  funext q
  simp only [updV, pAv, pR, pU, va_up]
  by_cases hq : q = i <;> simp [hq, pRf, va_up]
end SNC
