/-! a row for each rule: the machine's walk follows -/
def pE (p : Program) (R : Room) (s : State) (m : MethodId) (meth : Method) (c : Code) (d cx sx : Nat) (y : MethodName) (cc : ByteArray) : Prop :=
  p.tables.exec = Jvm.exec ∧ c.code = cc ∧ s.vm.findClass y.cls = some m.cls ∧ (y.name = "<init>" → meth.name = "<init>") ∧ cx ≤ R.cells ∧ sx ≤ R.slots ∧ d + 2 ≤ R.frames ∧ 60 * d + 160 ≤ R.locals
def pG (p : Program) (l : Launch) (e : Env) (R : Room) (s : State) (m : MethodId) (args : Array Value) (below : List Frame) (meth : Method) (c : Code) (Qw : State → Prop) (X : pX) (cx sx : Nat) : pP := fun kc ks pc ls st M =>
  ∀ (H : Heap) (arr : Array Slot) (locs : List Loc) (cells slots : Nat), pW X M s H → pLr X ls arr → ls.length = c.maxLocals → (∀ q ∈ locs, X.2.2.1.size ≤ q.base) → cells + kc ≤ cx → slots + ks ≤ sx → W p l e R s m args below meth c H locs cells slots Qw (F0 m pc arr (st.map (pTv X)))
section SN
variable {p : Program} {l : Launch} {e : Env} {R : Room} {s : State} {m : MethodId} {args : Array Value} {below : List Frame} {meth : Method} {c : Code} {Qw : State → Prop} {X : pX} {d cx sx : Nat} {C : pCt} {Q : pQ} {y : MethodName} {cc : ByteArray} {rt : Option FieldType}
theorem sn_push (E : pE p R s m meth c d cx sx y cc) : pr_push C Q y cc rt (pG p l e R s m args below meth c Qw X cx sx) := by
  intro kc ks pc ls M st i len v hd hp g H arr locs cells slots hW hL hz hl hc hs
  have k := g H arr locs cells slots hW hL hz hl hc hs
  obtain ⟨hx, hb, hown, hnm, -⟩ := E
  rcases hp with ⟨n, rfl, rfl, rfl⟩ | ⟨n, rfl, rfl, rfl⟩ | ⟨n, rfl, rfl, rfl⟩ | ⟨n, rfl, rfl, rfl⟩ | ⟨q, x, rfl, rfl, rfl, hq⟩ | ⟨q, x, rfl, rfl, rfl, hq⟩
  · exact lv_iconst hx hb hd rfl k
  · exact lv_bipush hx hb hd rfl k
  · exact lv_sipush hx hb hd rfl k
  · exact lv_lconst hx hb hd rfl k
  · exact lv_ldc hx hb hown (hW.1.use hq rfl args) hd k
  · exact lv_ldc2 hx hb hown (hW.1.use hq rfl args) hd k
theorem sn_load (E : pE p R s m meth c d cx sx y cc) : pr_load C Q y cc rt (pG p l e R s m args below meth c Qw X cx sx) := by
  intro kc ks pc ls M st i len k v hd hp hv g H arr locs cells slots hW hL hz hl hc hs
  have kk := g H arr locs cells slots hW hL hz hl hc hs
  have ha := hL.get hv
  obtain ⟨hx, hb, hown, hnm, -⟩ := E
  rcases hp with ⟨x, rfl, ⟨rfl, rfl⟩ | ⟨q, rfl, rfl, hq⟩⟩ | ⟨x, rfl, ⟨rfl, rfl⟩ | ⟨q, rfl, rfl, hq⟩⟩ | ⟨x, rfl, ⟨rfl, rfl⟩ | ⟨q, rfl, rfl, hq⟩⟩
  · exact lv_iload hx hb hd ha kk
  · exact lv_iload_n hx hb hd hq ha kk
  · exact lv_lload hx hb hd ha kk
  · exact lv_lload_n hx hb hd hq ha kk
  · exact lv_aload hx hb hd ha kk
  · exact lv_aload_n hx hb hd hq ha kk
theorem sn_store (E : pE p R s m meth c d cx sx y cc) : pr_store C Q y cc rt (pG p l e R s m args below meth c Qw X cx sx) := by
  intro kc ks pc ls M st i len k v hd hp hk g H arr locs cells slots hW hL hz hl hc hs
  have kk := fun arr hL => g H arr locs cells slots hW hL (by rw [pSt_len]; exact hz) hl hc hs
  obtain ⟨hx, hb, hown, hnm, -⟩ := E
  rcases hp with ⟨x, rfl, ⟨rfl, rfl⟩ | ⟨q, rfl, rfl, hq⟩⟩ | ⟨x, rfl, ⟨rfl, rfl⟩ | ⟨q, rfl, rfl, hq⟩⟩ | ⟨x, rfl, ⟨rfl, rfl⟩ | ⟨q, rfl, rfl, hq⟩⟩
  · exact lv_istore hx hb hd hL (by simp only [Value.category] at hk; omega) rfl (fun arr h => kk arr (pLr.st1 hk rfl h))
  · exact lv_istore_n hx hb hd hq hL (by simp only [Value.category] at hk; omega) rfl (fun arr h => kk arr (pLr.st1 hk rfl h))
  · exact lv_lstore hx hb hd hL (by simp only [Value.category] at hk; omega) rfl (fun arr h => kk arr (pLr.st2 hk rfl h))
  · exact lv_lstore_n hx hb hd hq hL (by simp only [Value.category] at hk; omega) rfl (fun arr h => kk arr (pLr.st2 hk rfl h))
  · exact lv_astore hx hb hd hL (by simp only [Value.category] at hk; omega) rfl (fun arr h => kk arr (pLr.st1 hk rfl h))
  · exact lv_astore_n hx hb hd hq hL (by simp only [Value.category] at hk; omega) rfl (fun arr h => kk arr (pLr.st1 hk rfl h))
theorem sn_iinc (E : pE p R s m meth c d cx sx y cc) : pr_iinc C Q y cc rt (pG p l e R s m args below meth c Qw X cx sx) := by
  intro kc ks pc ls M st k n x hd hv g H arr locs cells slots hW hL hz hl hc hs
  have kk := fun arr hL => g H arr locs cells slots hW hL (by rw [pSt_len]; exact hz) hl hc hs
  obtain ⟨hx, hb, hown, hnm, -⟩ := E
  have hlt : k < ls.length := (List.getElem?_eq_some_iff.mp hv).1
  obtain ⟨j, hj⟩ := List.getElem?_of_mem (pAl_mem.mpr ⟨_, hv, rfl⟩ : (k, pTv X (.int x)) ∈ pAl X ls)
  exact lv_iinc hx hb hd hL hj rfl hlt rfl (fun arr h => kk arr (pLr.st1 (by simp only [Value.category]; omega) rfl h))

theorem sn_op1 (E : pE p R s m meth c d cx sx y cc) : pr_op1 C Q y cc rt (pG p l e R s m args below meth c Qw X cx sx) := by
  intro kc ks pc ls M st st2 i hd hp g H arr locs cells slots hW hL hz hl hc hs
  have kk := g H arr locs cells slots hW hL hz hl hc hs
  obtain ⟨hx, hb, hown, hnm, -⟩ := E
  rcases hp with ⟨x, y, r, rfl, rfl, rfl⟩ | ⟨x, y, r, rfl, rfl, rfl⟩ | ⟨x, y, r, rfl, rfl, rfl⟩ | ⟨x, y, r, rfl, rfl, rfl⟩ | ⟨x, y, r, rfl, rfl, rfl⟩ | ⟨x, y, r, rfl, rfl, rfl⟩ | ⟨x, y, r, rfl, rfl, rfl⟩ | ⟨x, y, r, rfl, rfl, rfl⟩ | ⟨x, y, r, rfl, rfl, rfl, h1⟩
  · exact lv_iadd hx hb hd kk
  · exact lv_isub hx hb hd kk
  · exact lv_imul hx hb hd kk
  · exact lv_iand hx hb hd kk
  · exact lv_ior hx hb hd kk
  · exact lv_ixor hx hb hd kk
  · exact lv_ishl hx hb hd kk
  · exact lv_ishr hx hb hd kk
  · exact lv_idiv hx hb hd h1 kk
theorem sn_op2 (E : pE p R s m meth c d cx sx y cc) : pr_op2 C Q y cc rt (pG p l e R s m args below meth c Qw X cx sx) := by
  intro kc ks pc ls M st st2 i hd hp g H arr locs cells slots hW hL hz hl hc hs
  have kk := g H arr locs cells slots hW hL hz hl hc hs
  obtain ⟨hx, hb, hown, hnm, -⟩ := E
  rcases hp with ⟨x, y, r, rfl, rfl, rfl, h1⟩ | ⟨x, r, rfl, rfl, rfl⟩ | ⟨x, r, rfl, rfl, rfl⟩ | ⟨x, r, rfl, rfl, rfl⟩ | ⟨x, r, rfl, rfl, rfl⟩ | ⟨x, y, r, rfl, rfl, rfl⟩ | ⟨x, y, r, rfl, rfl, rfl⟩ | ⟨x, y, r, rfl, rfl, rfl⟩ | ⟨x, y, r, rfl, rfl, rfl⟩
  · exact lv_irem hx hb hd h1 kk
  · exact lv_ineg hx hb hd kk
  · exact lv_i2l hx hb hd rfl kk
  · exact lv_l2i hx hb hd rfl kk
  · exact lv_i2b hx hb hd rfl kk
  · exact lv_ladd hx hb hd kk
  · exact lv_lsub hx hb hd kk
  · exact lv_lmul hx hb hd kk
  · exact lv_land hx hb hd kk
theorem sn_op3 (E : pE p R s m meth c d cx sx y cc) : pr_op3 C Q y cc rt (pG p l e R s m args below meth c Qw X cx sx) := by
  intro kc ks pc ls M st st2 i hd hp g H arr locs cells slots hW hL hz hl hc hs
  have kk := g H arr locs cells slots hW hL hz hl hc hs
  obtain ⟨hx, hb, hown, hnm, -⟩ := E
  rcases hp with ⟨x, y, r, rfl, rfl, rfl⟩ | ⟨x, y, r, rfl, rfl, rfl⟩ | ⟨x, y, r, rfl, rfl, rfl⟩ | ⟨x, y, r, rfl, rfl, rfl⟩ | ⟨x, y, r, rfl, rfl, rfl⟩ | ⟨x, y, r, rfl, rfl, rfl⟩ | ⟨v, r, rfl, rfl, rfl, h1⟩ | ⟨v, r, rfl, rfl, rfl, h1⟩ | ⟨v, u, r, rfl, rfl, rfl, h1⟩
  · exact lv_lor hx hb hd kk
  · exact lv_lxor hx hb hd kk
  · exact lv_lshl hx hb hd rfl kk
  · exact lv_lshr hx hb hd rfl kk
  · exact lv_lushr hx hb hd rfl kk
  · exact W.lcmp hx hb hd kk
  · exact lv_dup hx hb hd ((pTv_cat X v).trans h1) kk
  · exact lv_pop hx hb hd ((pTv_cat X v).trans h1) kk
  · exact lv_dup2_11 hx hb hd ((pTv_cat X v).trans h1.1) ((pTv_cat X u).trans h1.2) kk
theorem sn_if0 (E : pE p R s m meth c d cx sx y cc) : pr_if0 C Q y cc rt (pG p l e R s m args below meth c Qw X cx sx) := by
  intro kc ks pc ls M st cd off tgt x hd ht g0 g1 H arr locs cells slots hW hL hz hl hc hs
  have k0 := fun hh => g0 hh H arr locs cells slots hW hL hz hl hc hs
  have k1 := fun hh => g1 hh H arr locs cells slots hW hL hz hl hc hs
  obtain ⟨hx, hb, hown, hnm, -⟩ := E
  cases cd
  · exact lv_if_eq hx hb hd ht k0 k1
  · exact lv_if_ne hx hb hd ht k0 (fun h => k1 (fun q => q h))
  · exact lv_if_lt hx hb hd ht k0 k1
  · exact lv_if_ge hx hb hd ht k0 k1
  · exact lv_if_gt hx hb hd ht k0 k1
  · exact lv_if_le hx hb hd ht k0 k1
theorem sn_if2 (E : pE p R s m meth c d cx sx y cc) : pr_if2 C Q y cc rt (pG p l e R s m args below meth c Qw X cx sx) := by
  intro kc ks pc ls M st cd off tgt x z hd ht g0 g1 H arr locs cells slots hW hL hz hl hc hs
  have k0 := fun hh => g0 hh H arr locs cells slots hW hL hz hl hc hs
  have k1 := fun hh => g1 hh H arr locs cells slots hW hL hz hl hc hs
  obtain ⟨hx, hb, hown, hnm, -⟩ := E
  cases cd
  · exact lv_icmp_eq hx hb hd ht k0 k1
  · exact lv_icmp_ne hx hb hd ht k0 (fun h => k1 (fun q => q h))
  · exact lv_icmp_lt hx hb hd ht k0 k1
  · exact lv_icmp_ge hx hb hd ht k0 k1
  · exact lv_icmp_gt hx hb hd ht k0 k1
  · exact lv_icmp_le hx hb hd ht k0 k1
theorem sn_goto (E : pE p R s m meth c d cx sx y cc) : pr_goto C Q y cc rt (pG p l e R s m args below meth c Qw X cx sx) := by
  intro kc ks pc ls M st off tgt hd ht g H arr locs cells slots hW hL hz hl hc hs
  have kk := g H arr locs cells slots hW hL hz hl hc hs
  obtain ⟨hx, hb, hown, hnm, -⟩ := E
  exact lv_goto hx hb hd ht kk
theorem sn_tabOut (E : pE p R s m meth c d cx sx y cc) : pr_tabOut C Q y cc rt (pG p l e R s m args below meth c Qw X cx sx) := by
  intro kc ks pc ls M st dflt lo hi offs len tgt x hd h1 ht g H arr locs cells slots hW hL hz hl hc hs
  have kk := g H arr locs cells slots hW hL hz hl hc hs
  obtain ⟨hx, hb, hown, hnm, -⟩ := E
  exact lv_tableOut hx hb hd h1 ht kk
theorem sn_tabIn (E : pE p R s m meth c d cx sx y cc) : pr_tabIn C Q y cc rt (pG p l e R s m args below meth c Qw X cx sx) := by
  intro kc ks pc ls M st dflt lo hi off offs len tgt x hd h1 h2 h3 ht g H arr locs cells slots hW hL hz hl hc hs
  have kk := g H arr locs cells slots hW hL hz hl hc hs
  obtain ⟨hx, hb, hown, hnm, -⟩ := E
  exact lv_tableIn hx hb hd h1 h2 h3 ht kk
end SN
