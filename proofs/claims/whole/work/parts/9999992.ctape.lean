/-! the tape is made: its text WORDS is read sign by sign -/
def txB : List Int32 := [108, 101, 102, 116, 32, 114, 105, 103, 104, 116, 32, 99, 114, 111, 115, 115, 32, 103, 97, 116, 101, 32, 116, 114, 97, 112, 32, 115, 105, 101, 118, 101, 32, 99, 111, 117, 110, 116, 101, 114, 32, 99, 111, 103, 32, 115, 101, 101, 115, 97, 119, 32, 112, 117, 116, 32, 97, 103, 97, 105, 110, 32, 109, 105, 114, 114, 111, 114, 32, 108, 101, 116, 32, 117, 115, 101, 32, 108, 97, 110, 101, 32, 104, 111, 112, 112, 101, 114, 32, 98, 121]
def txc (i : Nat) : Int := ([108, 101, 102, 116, 32, 114, 105, 103, 104, 116, 32, 99, 114, 111, 115, 115, 32, 103, 97, 116, 101, 32, 116, 114, 97, 112, 32, 115, 105, 101, 118, 101, 32, 99, 111, 117, 110, 116, 101, 114, 32, 99, 111, 103, 32, 115, 101, 101, 115, 97, 119, 32, 112, 117, 116, 32, 97, 103, 97, 105, 110, 32, 109, 105, 114, 114, 111, 114, 32, 108, 101, 116, 32, 117, 115, 101, 32, 108, 97, 110, 101, 32, 104, 111, 112, 112, 101, 114, 32, 98, 121] : List Int).getD i 0
theorem txc_r (i : Nat) : 0 ≤ txc i ∧ txc i ≤ 126 := by
  by_cases h : i < 91
  · have h9 : ∀ i, i < 91 → 0 ≤ txc i ∧ txc i ≤ 126 := by decide +kernel
    exact h9 i h
  · have e : txc i = 0 := by
      unfold txc
      rw [List.getD_eq_getElem?_getD, List.getElem?_eq_none (by simp; omega)]
      rfl
    omega
/-- the words after i signs -/
def txs : Nat → Nat × (Nat → Int64)
  | 0 => (1, fun _ => 0)
  | i + 1 => if txc i = 32 then ((txs i).1 + 1, (txs i).2) else if 17 < (txs i).1 then txs i else ((txs i).1, va_up (txs i).2 (txs i).1 (((txs i).2 (txs i).1 <<< ((iI 8).toInt64 &&& 63)) ||| jL (txc i)))
theorem txs_le : ∀ i, (txs i).1 ≤ i + 1
  | 0 => Nat.le_refl _
  | i + 1 => by
    have h := txs_le i
    rw [txs]
    split
    · show (txs i).1 + 1 ≤ _; omega
    · split
      · omega
      · show (txs i).1 ≤ _; omega
theorem txs_ge : ∀ i, 1 ≤ (txs i).1
  | 0 => Nat.le_refl _
  | i + 1 => by
    have h := txs_ge i
    rw [txs]
    split
    · show 1 ≤ (txs i).1 + 1; omega
    · split
      · exact h
      · exact h
theorem txs_kw : ∀ k, 1 ≤ k → k ≤ 17 → (txs 91).2 k = lN (kwI k) := by
  have h : ∀ k, k ≤ 17 → 1 ≤ k → (txs 91).2 k = lN (kwI k) := by decide +kernel
  exact fun k h1 h2 => h k h2 h1
/-- what the machine does with the text -/
def pClS (P : pP) : Prop :=
  (∀ (kc ks pc : Nat) (ls : pL) (M : pM) (st : List Value), decode cX8_init pc = .ok (.ldc 29, 2) → P kc ks (pc + 2) ls (.ref 1 :: st) M → P kc ks pc ls st M) ∧
  (∀ (kc ks pc : Nat) (ls : pL) (M : pM) (st : List Value), decode cX8_init pc = .ok (.invokevirtual 31, 3) → pCat st ≤ 8 → P kc ks (pc + 3) ls (.int (iI 91) :: st) M → P kc ks pc ls (.ref 1 :: st) M) ∧
  (∀ (kc ks pc : Nat) (ls : pL) (M : pM) (st : List Value) (i : Nat), decode cX8_init pc = .ok (.invokevirtual 37, 3) → i < 91 → pCat st ≤ 8 → P kc ks (pc + 3) ls (.int (iI (txc i)) :: st) M → P kc ks pc ls (.int (iI ((i : Nat) : Int)) :: .ref 1 :: st) M)
section QP
variable {C : pCt} {Q : pQ} {y : MethodName} {cc : ByteArray} {rt : Option FieldType} {P : pP} {kc ks pc pc1 pc2 : Nat} {ls : pL} {st : List Value} {M : pM}
theorem q_aload0 (hP : pCl C Q y cc rt P) {x : Nat} (h : decode cc pc = .ok (.aload_n 0, 1)) (hp : pc + 1 = pc2) (g : P kc ks pc2 (some (.ref x) :: ls) (.ref x :: st) M) : P kc ks pc (some (.ref x) :: ls) st M := by subst hp; exact hP.2.1 kc ks pc _ M st _ _ 0 _ h (Or.inr (Or.inr (⟨x, rfl, Or.inr ⟨0, rfl, rfl, rfl⟩⟩))) rfl g
theorem q_iload1 (hP : pCl C Q y cc rt P) {a0 : Option Value} {x : Int32} (h : decode cc pc = .ok (.iload_n 1, 1)) (hp : pc + 1 = pc2) (g : P kc ks pc2 (a0 :: some (.int x) :: ls) (.int x :: st) M) : P kc ks pc (a0 :: some (.int x) :: ls) st M := by subst hp; exact hP.2.1 kc ks pc _ M st _ _ 1 _ h (Or.inl (⟨x, rfl, Or.inr ⟨1, rfl, rfl, rfl⟩⟩)) rfl g
theorem q_iload2 (hP : pCl C Q y cc rt P) {a0 a1 : Option Value} {x : Int32} (h : decode cc pc = .ok (.iload_n 2, 1)) (hp : pc + 1 = pc2) (g : P kc ks pc2 (a0 :: a1 :: some (.int x) :: ls) (.int x :: st) M) : P kc ks pc (a0 :: a1 :: some (.int x) :: ls) st M := by subst hp; exact hP.2.1 kc ks pc _ M st _ _ 2 _ h (Or.inl (⟨x, rfl, Or.inr ⟨2, rfl, rfl, rfl⟩⟩)) rfl g
theorem q_iconst (hP : pCl C Q y cc rt P) {n : Int} (h : decode cc pc = .ok (.iconst n, 1)) (hp : pc + 1 = pc2) (g : P kc ks pc2 ls (.int (iI n) :: st) M) : P kc ks pc ls st M := by subst hp; exact hP.1 kc ks pc ls M st _ _ _ h (Or.inl ⟨n, rfl, rfl, rfl⟩) g
theorem q_bipush (hP : pCl C Q y cc rt P) {n : Int} (h : decode cc pc = .ok (.bipush n, 2)) (hp : pc + 2 = pc2) (h1 : -128 ≤ n) (h2 : n ≤ 127) (g : P kc ks pc2 ls (.int (iI n) :: st) M) : P kc ks pc ls st M := by subst hp; exact hP.1 kc ks pc ls M st _ _ _ h (Or.inr (Or.inl ⟨n, rfl, rfl, by rw [iI_b8 h1 h2]⟩)) g
theorem q_sipush (hP : pCl C Q y cc rt P) {n : Int} (h : decode cc pc = .ok (.sipush n, 3)) (hp : pc + 3 = pc2) (h1 : -32768 ≤ n) (h2 : n ≤ 32767) (g : P kc ks pc2 ls (.int (iI n) :: st) M) : P kc ks pc ls st M := by subst hp; exact hP.1 kc ks pc ls M st _ _ _ h (Or.inr (Or.inr (Or.inl ⟨n, rfl, rfl, by rw [iI_b16 h1 h2]⟩))) g
theorem q_istore1 (hP : pCl C Q y cc rt P) {a0 b0 : Option Value} {x : Int32} (h : decode cc pc = .ok (.istore_n 1, 1)) (hp : pc + 1 = pc2) (hn : pNc a0 = true) (g : P kc ks pc2 (a0 :: some (.int x) :: ls) st M) : P kc ks pc (a0 :: b0 :: ls) (.int x :: st) M := by subst hp; refine hP.2.2.1 kc ks pc _ M st _ _ 1 _ h (Or.inl (⟨x, rfl, Or.inr ⟨1, rfl, rfl, rfl⟩⟩)) (by simp [Value.category]) ?_; simpa [pSt, Value.category, hn] using g
theorem q_istore2 (hP : pCl C Q y cc rt P) {a0 a1 b0 : Option Value} {x : Int32} (h : decode cc pc = .ok (.istore_n 2, 1)) (hp : pc + 1 = pc2) (hn : pNc a1 = true) (g : P kc ks pc2 (a0 :: a1 :: some (.int x) :: ls) st M) : P kc ks pc (a0 :: a1 :: b0 :: ls) (.int x :: st) M := by subst hp; refine hP.2.2.1 kc ks pc _ M st _ _ 2 _ h (Or.inl (⟨x, rfl, Or.inr ⟨2, rfl, rfl, rfl⟩⟩)) (by simp [Value.category]) ?_; simpa [pSt, Value.category, hn] using g
theorem q_iinc1 (hP : pCl C Q y cc rt P) {a0 : Option Value} {x n z : Int} (h : decode cc pc = .ok (.iinc 1 n, 3)) (hp : pc + 3 = pc2) (hz : x + n = z) (hn : pNc a0 = true) (g : P kc ks pc2 (a0 :: some (.int (iI z)) :: ls) st M) : P kc ks pc (a0 :: some (.int (iI x)) :: ls) st M := by subst hp; subst hz; refine hP.2.2.2.1 kc ks pc _ M st 1 n (iI x) h rfl ?_; have e : iI x + Int32.ofInt n = iI (x + n) := iI_add x n; rw [e]; simpa [pSt, Value.category, hn] using g
theorem q_iinc2 (hP : pCl C Q y cc rt P) {a0 a1 : Option Value} {x n z : Int} (h : decode cc pc = .ok (.iinc 2 n, 3)) (hp : pc + 3 = pc2) (hz : x + n = z) (hn : pNc a1 = true) (g : P kc ks pc2 (a0 :: a1 :: some (.int (iI z)) :: ls) st M) : P kc ks pc (a0 :: a1 :: some (.int (iI x)) :: ls) st M := by subst hp; subst hz; refine hP.2.2.2.1 kc ks pc _ M st 2 n (iI x) h rfl ?_; have e : iI x + Int32.ofInt n = iI (x + n) := iI_add x n; rw [e]; simpa [pSt, Value.category, hn] using g
theorem q_i2l (hP : pCl C Q y cc rt P) {a : Int} (h : decode cc pc = .ok (.i2l, 1)) (hp : pc + 1 = pc2) (hr : inR a) (g : P kc ks pc2 ls (.long (jL a) :: st) M) : P kc ks pc ls (.int (iI a) :: st) M := by subst hp; refine hP.2.2.2.2.2.1 kc ks pc ls M _ _ _ h (Or.inr (Or.inr (Or.inl (⟨iI a, st, rfl, rfl, rfl⟩)))) ?_; rw [iI_i2l hr]; exact g
theorem q_lor (hP : pCl C Q y cc rt P) {x z : Int64} (h : decode cc pc = .ok (.lor, 1)) (hp : pc + 1 = pc2) (g : P kc ks pc2 ls (.long (x ||| z) :: st) M) : P kc ks pc ls (.long z :: .long x :: st) M := by subst hp; exact hP.2.2.2.2.2.2.1 kc ks pc ls M _ _ _ h (Or.inl (⟨x, z, st, rfl, rfl, rfl⟩)) g
theorem q_lshl (hP : pCl C Q y cc rt P) {x : Int64} {z : Int32} (h : decode cc pc = .ok (.lshl, 1)) (hp : pc + 1 = pc2) (g : P kc ks pc2 ls (.long (x <<< (z.toInt64 &&& 63)) :: st) M) : P kc ks pc ls (.int z :: .long x :: st) M := by subst hp; exact hP.2.2.2.2.2.2.1 kc ks pc ls M _ _ _ h (Or.inr (Or.inr (Or.inl (⟨x, z, st, rfl, rfl, rfl⟩)))) g
theorem q_icne (hP : pCl C Q y cc rt P) {a b : Int} {off : Int} {tgt : Nat} (h : decode cc pc = .ok (.if_icmp .ne off, 3)) (hp : pc + 3 = pc2) (ht : (pc : Int) + off = (tgt : Int)) (hr : inR a) (hs : inR b) (g0 : ¬ a = b → P kc ks tgt ls st M) (g1 : a = b → P kc ks pc2 ls st M) : P kc ks pc ls (.int (iI b) :: .int (iI a) :: st) M := by subst hp; exact hP.2.2.2.2.2.2.2.2.1 kc ks pc ls M st _ _ _ _ _ h ht (fun q => g0 (by simp only [pB2] at q; rw [iI_inj hr hs] at q; omega)) (fun q => g1 (by simp only [pB2] at q; rw [iI_inj hr hs] at q; omega))
theorem q_icge (hP : pCl C Q y cc rt P) {a b : Int} {off : Int} {tgt : Nat} (h : decode cc pc = .ok (.if_icmp .ge off, 3)) (hp : pc + 3 = pc2) (ht : (pc : Int) + off = (tgt : Int)) (hr : inR a) (hs : inR b) (g0 : b ≤ a → P kc ks tgt ls st M) (g1 : a < b → P kc ks pc2 ls st M) : P kc ks pc ls (.int (iI b) :: .int (iI a) :: st) M := by subst hp; exact hP.2.2.2.2.2.2.2.2.1 kc ks pc ls M st _ _ _ _ _ h ht (fun q => g0 (by simp only [pB2] at q; rw [iI_le hs hr] at q; omega)) (fun q => g1 (by simp only [pB2] at q; rw [iI_le hs hr] at q; omega))
theorem q_icgt (hP : pCl C Q y cc rt P) {a b : Int} {off : Int} {tgt : Nat} (h : decode cc pc = .ok (.if_icmp .gt off, 3)) (hp : pc + 3 = pc2) (ht : (pc : Int) + off = (tgt : Int)) (hr : inR a) (hs : inR b) (g0 : b < a → P kc ks tgt ls st M) (g1 : a ≤ b → P kc ks pc2 ls st M) : P kc ks pc ls (.int (iI b) :: .int (iI a) :: st) M := by subst hp; exact hP.2.2.2.2.2.2.2.2.1 kc ks pc ls M st _ _ _ _ _ h ht (fun q => g0 (by simp only [pB2] at q; rw [iI_lt hs hr] at q; omega)) (fun q => g1 (by simp only [pB2] at q; rw [iI_lt hs hr] at q; omega))
theorem q_goto (hP : pCl C Q y cc rt P) {off : Int} {tgt : Nat} (h : decode cc pc = .ok (.goto off, 3)) (ht : (pc : Int) + off = (tgt : Int)) (g : P kc ks tgt ls st M) : P kc ks pc ls st M := hP.2.2.2.2.2.2.2.2.2.1 kc ks pc ls M st off tgt h ht g
theorem q_all (hP : pCl C Q y cc rt P) : pr_getR C Q y cc rt P ∧ pr_putR C Q y cc rt P ∧ pr_lald C Q y cc rt P ∧ pr_last C Q y cc rt P ∧ pr_newa C Q y cc rt P ∧ pr_oini C Q y cc rt P ∧ pr_vret C Q y cc rt P := by
  obtain ⟨h1, h2, h3, h4, h5, h6, h7, h8, h9, h10, h11, h12, h13, h14, h15, h16, h17, h18, h19, h20, h21, h22, h23, h24, h25, h26, h27, h28, h29, h30, h31, h32, h33, h34, h35, h36, h37, h38, h39, h40⟩ := hP
  exact ⟨h15, h18, h22, h26, h29, h31, h40⟩
theorem q_getR (hP : pCl C Q y cc rt P) {a idx ci k b : Nat} (h : decode cc pc = .ok (.getfield idx, 3)) (hp : pc + 3 = pc2) (hf : pFld y.cls idx ci k 2) (hk : M.1.2.1 a = (1, ci)) (hb : M.1.2.2 a k = some b) (g : P kc ks pc2 ls (.ref b :: st) M) : P kc ks pc ls (.ref a :: st) M := by subst hp; exact (q_all hP).1 kc ks pc ls M st _ _ _ _ _ h hf hk hb g
theorem q_lald (hP : pCl C Q y cc rt P) {a n : Nat} {j : Int} {z : Int64} (h : decode cc pc = .ok (.laload, 1)) (hp : pc + 1 = pc2) (hk : M.1.2.1 a = (3, n)) (i : Nat) (hj : j = (i : Int)) (hi : i < n) (hz : M.2.2 a i = z) (g : P kc ks pc2 ls (.long z :: st) M) : P kc ks pc ls (.int (iI j) :: .ref a :: st) M := by subst hp; subst hz; subst hj; exact (q_all hP).2.2.1 kc ks pc ls M st _ _ _ _ h hk rfl hi g
theorem q_last (hP : pCl C Q y cc rt P) {a n : Nat} {j : Int} {z : Int64} (h : decode cc pc = .ok (.lastore, 1)) (hp : pc + 1 = pc2) (hk : M.1.2.1 a = (3, n)) (ha : 2 ≤ a) (i : Nat) (hj : j = (i : Int)) (hi : i < n) (g : P kc ks pc2 ls st (pJ M a i z)) : P kc ks pc ls (.long z :: .int (iI j) :: .ref a :: st) M := by subst hp; subst hj; exact (q_all hP).2.2.2.1 kc ks pc ls M st _ _ _ _ _ h hk ha rfl hi g
theorem q_oini (hP : pCl C Q y cc rt P) {idx a : Nat} (h : decode cc pc = .ok (.invokespecial idx, 3)) (hp : pc + 3 = pc2) (ho : pOi y.cls idx) (hs : pCat st ≤ 8) (g : P kc ks pc2 ls st M) : P kc ks pc ls (.ref a :: st) M := by subst hp; exact (q_all hP).2.2.2.2.2.1 kc ks pc ls M st _ _ h ho hs g
theorem q_ret (hP : pCl C Q y cc rt P) (h : decode cc pc = .ok (.return_, 1)) (hr : rt = none) (hq : Q none M) : P kc ks pc ls [] M := (q_all hP).2.2.2.2.2.2 kc ks pc ls M h hr hq
theorem q_nap (hP : pCl C Q y cc rt P) {ty : ArrayType} {t n idx ci k a : Nat} {j : Int} (h : decode cc pc = .ok (.newarray ty, 2)) (hp : pc + 2 = pc1) (ht : (ty = .int ∧ t = 2) ∨ (ty = .long ∧ t = 3) ∨ (ty = .byte ∧ t = 4) ∨ (ty = .boolean ∧ t = 5)) (hj : j = (n : Int)) (hn : n ≤ 1000000) (h2 : decode cc pc1 = .ok (.putfield idx, 3)) (hp2 : pc1 + 3 = pc2) (hf : pFld y.cls idx ci k 2) (hw : pWr y ci k) (hk : M.1.2.1 a = (1, ci)) (ha : 2 ≤ a) (hl : a < M.1.1)
    (g : ∀ M1, M1 = ndS a M (t, n, k) → M1.1.2.1 a = (1, ci) → a < M1.1.1 → P kc ks pc2 ls st M1) : P (kc + 1) (ks + n) pc ls (.int (iI j) :: .ref a :: st) M := by
  subst hp; subst hp2; subst hj
  refine (q_all hP).2.2.2.2.1 kc ks pc ls M _ _ _ _ _ h ht rfl hn ((q_all hP).2.1 kc ks _ ls _ st _ _ _ _ _ h2 hf hw ?_ ha ?_)
  · exact (up_ne (by omega)).trans hk
  · exact g (ndS a M (t, n, k)) rfl ((ndS_k (by omega)).trans hk) (by rw [ndS_n]; omega)
end QP
def TI9 (M0 M : pM) (i : Nat) : Prop := GWz M0 M 3 9 (r0 3) (fun _ _ => 0) ∧ ∀ k, M.2.2 4 k = (txs i).2 k
theorem TI9.J {M0 M : pM} {i k : Nat} {v : Int64} (h : GWz M0 M 3 9 (r0 3) (fun _ _ => 0)) : GWz M0 (pJ M 4 k v) 3 9 (r0 3) (fun _ _ => 0) := by
  obtain ⟨h1, h2, h3, h4, h5, h6, h7⟩ := h
  refine ⟨h1, h2, fun b hb => ⟨(h3 b hb).1, (h3 b hb).2.1, ?_⟩, h4, fun b q1 q2 w1 w2 w3 w4 j => ?_, h6, h7⟩
  · show pU M.2.2 4 k v b = _
    rw [pU_ne (by omega)]; exact (h3 b hb).2.2
  · show pU M.2.2 4 k v b j = _
    rw [pU_ne w1]; exact h5 b q1 q2 w1 w2 w3 w4 j
set_option maxHeartbeats 4000000 in
theorem pp_X8_loop {C : pCt} {Q : pQ} {P : pP} (hP : pCl C Q yX8_init cX8_init none P) (hT : pClS P) (M0 : pM) (hk3 : M0.1.2.1 3 = (1, 8)) (hQ : ∀ M2, TI9 M0 M2 91 → Q none M2) : ∀ (m i : Nat) (M : pM), i + m = 91 → TI9 M0 M i → P 0 0 52 [some (.ref 3), some (.int (iI (((txs i).1 : Nat) : Int))), some (.int (iI ((i : Nat) : Int)))] [] M := by
  obtain ⟨t1, t2, t3⟩ := hT
  intro m
  induction m with
  | zero =>
    intro i M hm h
    obtain rfl : i = 91 := by omega
    refine q_iload2 hP (pc2 := 53) dX8_init_52 rfl ?_
    refine t1 _ _ _ _ _ _ dX8_init_53 ?_
    refine t2 _ _ _ _ _ _ dX8_init_55 (Nat.le_of_ble_eq_true rfl) ?_
    refine q_icge hP (tgt := 113) (pc2 := 61) dX8_init_58 rfl (by decide) ⟨by omega, by omega⟩ ⟨by omega, by omega⟩ (fun _ => ?_) (fun b => absurd b (by omega))
    refine q_ret hP dX8_init_113 rfl ?_
    exact hQ M h
  | succ m ih =>
    intro i M hm h
    obtain ⟨hg, hw⟩ := h
    have hc := txc_r i
    have hl := txs_le i
    have hge := txs_ge i
    have k3 : M.1.2.1 3 = (1, 8) := (hg.2.1 3 (by decide)).trans hk3
    have r3 : M.1.2.2 3 0 = some 4 := (hg.2.2.2.2.2.1 0).trans rfl
    have k4 : M.1.2.1 4 = (3, 18) := (hg.2.2.2.1 4 (by decide) (by decide)).1.trans (by decide)
    refine q_iload2 hP (pc2 := 53) dX8_init_52 rfl ?_
    refine t1 _ _ _ _ _ _ dX8_init_53 ?_
    refine t2 _ _ _ _ _ _ dX8_init_55 (Nat.le_of_ble_eq_true rfl) ?_
    refine q_icge hP (tgt := 113) (pc2 := 61) dX8_init_58 rfl (by decide) ⟨by omega, by omega⟩ ⟨by omega, by omega⟩ (fun b => absurd b (by omega)) (fun _ => ?_)
    refine t1 _ _ _ _ _ _ dX8_init_61 ?_
    refine q_iload2 hP (pc2 := 64) dX8_init_63 rfl ?_
    refine t3 _ _ _ _ _ _ i dX8_init_64 (by omega) (Nat.le_of_ble_eq_true rfl) ?_
    refine q_bipush hP (pc2 := 69) dX8_init_67 rfl (by decide) (by decide) ?_
    refine q_icne hP (tgt := 78) (pc2 := 72) dX8_init_69 rfl (by decide) ⟨by omega, by omega⟩ ⟨by omega, by omega⟩ (fun b => ?_) (fun b => ?_)
    · refine q_iload1 hP (pc2 := 79) dX8_init_78 rfl ?_
      refine q_bipush hP (pc2 := 81) dX8_init_79 rfl (by decide) (by decide) ?_
      refine q_icgt hP (tgt := 107) (pc2 := 84) dX8_init_81 rfl (by decide) ⟨by omega, by omega⟩ ⟨by omega, by omega⟩ (fun b2 => ?_) (fun b2 => ?_)
      · have e : txs (i + 1) = txs i := by rw [txs, if_neg b, if_pos (by omega)]
        refine q_iinc2 hP (z := ((i + 1 : Nat) : Int)) (pc2 := 110) dX8_init_107 rfl (by omega) rfl ?_
        refine q_goto hP (tgt := 52) dX8_init_110 (by decide) ?_
        have h9 := ih (i + 1) M (by omega) ⟨hg, by rw [e]; exact hw⟩
        rw [e] at h9
        exact h9
      · have e : txs (i + 1) = ((txs i).1, va_up (txs i).2 (txs i).1 (((txs i).2 (txs i).1 <<< ((iI 8).toInt64 &&& 63)) ||| jL (txc i))) := by rw [txs, if_neg b, if_neg (by omega)]
        refine q_aload0 hP (pc2 := 85) dX8_init_84 rfl ?_
        refine q_getR hP (pc2 := 88) dX8_init_85 rfl fX8_9 k3 r3 ?_
        refine q_iload1 hP (pc2 := 89) dX8_init_88 rfl ?_
        refine q_aload0 hP (pc2 := 90) dX8_init_89 rfl ?_
        refine q_getR hP (pc2 := 93) dX8_init_90 rfl fX8_9 k3 r3 ?_
        refine q_iload1 hP (pc2 := 94) dX8_init_93 rfl ?_
        refine q_lald hP (pc2 := 95) dX8_init_94 rfl k4 (txs i).1 rfl (by omega) (hw _) ?_
        refine q_bipush hP (pc2 := 97) dX8_init_95 rfl (by decide) (by decide) ?_
        refine q_lshl hP (pc2 := 98) dX8_init_97 rfl ?_
        refine t1 _ _ _ _ _ _ dX8_init_98 ?_
        refine q_iload2 hP (pc2 := 101) dX8_init_100 rfl ?_
        refine t3 _ _ _ _ _ _ i dX8_init_101 (by omega) (Nat.le_of_ble_eq_true rfl) ?_
        refine q_i2l hP (pc2 := 105) dX8_init_104 rfl ⟨by omega, by omega⟩ ?_
        refine q_lor hP (pc2 := 106) dX8_init_105 rfl ?_
        refine q_last hP (pc2 := 107) dX8_init_106 rfl k4 (by decide) (txs i).1 rfl (by omega) ?_
        refine q_iinc2 hP (z := ((i + 1 : Nat) : Int)) (pc2 := 110) dX8_init_107 rfl (by omega) rfl ?_
        refine q_goto hP (tgt := 52) dX8_init_110 (by decide) ?_
        have h9 := ih (i + 1) (pJ M 4 (txs i).1 (((txs i).2 (txs i).1 <<< ((iI 8).toInt64 &&& 63)) ||| jL (txc i))) (by omega) ⟨TI9.J (i := i) hg, fun k => by
          rw [e]
          show pU M.2.2 4 _ _ 4 k = _
          rw [pU_at]
          dsimp only
          by_cases u : k = (txs i).1
          · rw [u, up_at, up_at]
          · rw [up_ne u, up_ne u]; exact hw k⟩
        rw [show (txs (i + 1)).1 = (txs i).1 by rw [e]] at h9
        exact h9
    · have e : txs (i + 1) = ((txs i).1 + 1, (txs i).2) := by rw [txs, if_pos b]
      refine q_iinc1 hP (z := (((txs i).1 + 1 : Nat) : Int)) (pc2 := 75) dX8_init_72 rfl (by omega) rfl ?_
      refine q_goto hP (tgt := 107) dX8_init_75 (by decide) ?_
      refine q_iinc2 hP (z := ((i + 1 : Nat) : Int)) (pc2 := 110) dX8_init_107 rfl (by omega) rfl ?_
      refine q_goto hP (tgt := 52) dX8_init_110 (by decide) ?_
      have h9 := ih (i + 1) M (by omega) ⟨hg, by rw [e]; exact hw⟩
      rw [show (txs (i + 1)).1 = (txs i).1 + 1 by rw [e]] at h9
      exact h9
set_option maxHeartbeats 4000000 in
theorem pp_X8_init {C : pCt} {Q : pQ} {P : pP} (hP : pCl C Q yX8_init cX8_init none P) (hT : pClS P) {M : pM} (hf : FR M 3 8) (hQ : ∀ M2, GW M M2 3 9 → cWd M2 → Q none M2) : P 5 4021 0 [some (.ref 3), none, none] [] M := by
  have g0 := GWz.f hf
  have k0 := hf.2.1
  have l0 : 3 < M.1.1 := by rw [hf.1]; omega
  refine q_aload0 hP (pc2 := 1) dX8_init_0 rfl ?_
  refine q_oini hP (pc2 := 4) dX8_init_1 rfl oX8_3 (by decide) ?_
  refine q_aload0 hP (pc2 := 5) dX8_init_4 rfl ?_
  refine q_bipush hP (pc2 := 7) dX8_init_5 rfl (by decide) (by decide) ?_
  refine q_nap hP (t := 3) (n := 18) (kc := 4) (ks := 4003) (pc1 := 9) (pc2 := 12) dX8_init_7 rfl (Or.inr (Or.inl ⟨rfl, rfl⟩)) rfl (by decide) dX8_init_9 rfl fX8_9 (wf8_0 rfl rfl) k0 (by decide) l0 (fun M1 e1 k1 l1 => ?_)
  have g1 := g0.S e1 (by decide +kernel) (by decide) rfl
  refine q_aload0 hP (pc2 := 13) dX8_init_12 rfl ?_
  refine q_sipush hP (pc2 := 16) dX8_init_13 rfl (by decide) (by decide) ?_
  refine q_nap hP (t := 4) (n := 1000) (kc := 3) (ks := 3003) (pc1 := 18) (pc2 := 21) dX8_init_16 rfl (Or.inr (Or.inr (Or.inl ⟨rfl, rfl⟩))) rfl (by decide) dX8_init_18 rfl fX8_15 (wf8_1 rfl rfl) k1 (by decide) l1 (fun M2 e2 k2 l2 => ?_)
  have g2 := g1.S e2 (by decide +kernel) (by decide) rfl
  refine q_aload0 hP (pc2 := 22) dX8_init_21 rfl ?_
  refine q_sipush hP (pc2 := 25) dX8_init_22 rfl (by decide) (by decide) ?_
  refine q_nap hP (t := 2) (n := 1001) (kc := 2) (ks := 2002) (pc1 := 27) (pc2 := 30) dX8_init_25 rfl (Or.inl ⟨rfl, rfl⟩) rfl (by decide) dX8_init_27 rfl fX8_19 (wf8_2 rfl rfl) k2 (by decide) l2 (fun M3 e3 k3 l3 => ?_)
  have g3 := g2.S e3 (by decide +kernel) (by decide) rfl
  refine q_aload0 hP (pc2 := 31) dX8_init_30 rfl ?_
  refine q_sipush hP (pc2 := 34) dX8_init_31 rfl (by decide) (by decide) ?_
  refine q_nap hP (t := 2) (n := 1001) (kc := 1) (ks := 1001) (pc1 := 36) (pc2 := 39) dX8_init_34 rfl (Or.inl ⟨rfl, rfl⟩) rfl (by decide) dX8_init_36 rfl fX8_23 (wf8_3 rfl rfl) k3 (by decide) l3 (fun M4 e4 k4 l4 => ?_)
  have g4 := g3.S e4 (by decide +kernel) (by decide) rfl
  refine q_aload0 hP (pc2 := 40) dX8_init_39 rfl ?_
  refine q_sipush hP (pc2 := 43) dX8_init_40 rfl (by decide) (by decide) ?_
  refine q_nap hP (t := 3) (n := 1001) (kc := 0) (ks := 0) (pc1 := 45) (pc2 := 48) dX8_init_43 rfl (Or.inr (Or.inl ⟨rfl, rfl⟩)) rfl (by decide) dX8_init_45 rfl fX8_26 (wf8_4 rfl rfl) k4 (by decide) l4 (fun M5 e5 k5 l5 => ?_)
  have g5 := g4.S e5 (by decide +kernel) (by decide) rfl
  refine q_iconst hP (pc2 := 49) dX8_init_48 rfl ?_
  refine q_istore1 hP (pc2 := 50) dX8_init_49 rfl rfl ?_
  refine q_iconst hP (pc2 := 51) dX8_init_50 rfl ?_
  refine q_istore2 hP (pc2 := 52) dX8_init_51 rfl rfl ?_
  have w4 : ∀ k, M5.2.2 4 k = 0 := fun k => by
    have n1 : M1.1.1 = 5 := g1.1.2.1
    have n2 : M2.1.1 = 6 := g2.1.2.1
    have n3 : M3.1.1 = 7 := g3.1.2.1
    have n4 : M4.1.1 = 8 := g4.1.2.1
    rw [e5, (ndS_i (by omega)).2, e4, (ndS_i (by omega)).2, e3, (ndS_i (by omega)).2, e2, (ndS_i (by omega)).2, e1, show (4 : Nat) = M.1.1 by rw [hf.1], ndS_ia.2]
  have g9 : GWz M M5 3 9 (r0 3) (fun _ _ => 0) := by
    obtain ⟨q1, q2, q3, q4, q5, q6, q7⟩ := g5
    refine ⟨q1, q2, q3, q4, q5, fun j => (q6 j).trans ?_, q7⟩
    match j with
    | 0 => rfl
    | 1 => rfl
    | 2 => rfl
    | 3 => rfl
    | 4 => rfl
    | j + 5 => dsimp only; rw [up_ne (by omega), up_ne (by omega), up_ne (by omega), up_ne (by omega), up_ne (by omega)]; rfl
  refine pp_X8_loop hP hT M hf.2.1 (fun M2 h => ?_) 91 0 M5 (by decide) ⟨g9, w4⟩
  refine hQ M2 (h.1.eq (fun j => rfl) (fun c q1 q2 j => ?_)) (fun k q1 q2 => (h.2 k).trans (txs_kw k q1 q2))
  refine (z0_0 ?_).symm
  refine decide_eq_true ?_
  unfold bO
  rw [if_neg (by omega), if_neg (by omega), if_neg (by omega)]
  omega
