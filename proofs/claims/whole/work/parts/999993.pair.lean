/-! a call of the class and the same call of the model -/
def INV (c : Nat) (M : pM) : Prop := sOk M.1 ∧ ∃ (T : Nat → Int) (L : Nat) (B : Nat → bS) (k : Nat) (lf lg : Nat → Int) (N pu n : Nat) (W : Nat → Int) (sn : Nat) (ho : Nat → Nat) (hw : Nat → Int), AI T L B k lf N ho ∧ CI M T L B k lf lg N pu n W sn ho hw ∧ MI M T L B k lf lg N pu n W sn ho hw ∧ N ≤ 200 * c
def smS (M M3 : pM) : Prop := M3.1 = M.1 ∧ M3.2.1 0 = M.2.1 0
def PR (yc ym : MethodName) (ca ma : List Value) (M : pM) (c : Nat) : Prop := Ct 340 0 0 yc ca M (fun v M2 => ∃ z, v = some (.int (iI z)) ∧ smS M M2 ∧ Ct 340 0 0 ym ma M2 (fun v3 M3 => v3 = some (.int (iI z)) ∧ INV (c + 1) M3 ∧ smS M M3))
theorem fC.ok {M M2 : pM} (h : fC M M2) (hS : sOk M.1) : sOk M2.1 := by rw [h.1]; exact hS
theorem fC.sm {M M2 : pM} (h : fC M M2) : smS M M2 := ⟨h.1, (h.2 0 (by omega)).1⟩
theorem fM.ok {M M2 : pM} (h : fM M M2) (hS : sOk M.1) : sOk M2.1 := by rw [h.1]; exact hS
theorem INV.mk9 {c : Nat} {M M2 M3 : pM} {T : Nat → Int} {L : Nat} {B : Nat → bS} {k : Nat} {lf lg : Nat → Int} {N pu n : Nat} {W : Nat → Int} {sn : Nat} {ho : Nat → Nat} {hw : Nat → Int} (hS : sOk M.1) (h2 : fC M M2) (g2 : fM M2 M3) (hA : AI T L B k lf N ho) (h1 : CI M2 T L B k lf lg N pu n W sn ho hw) (g1 : MI M3 T L B k lf lg N pu n W sn ho hw) (hN : N ≤ 200 * (c + 1)) : INV (c + 1) M3 ∧ smS M M3 :=
  ⟨⟨g2.ok (h2.ok hS), T, L, B, k, lf, lg, N, pu, n, W, sn, ho, hw, hA, h1.fm g2, g1, hN⟩, g2.1.trans h2.1, ((g2.2 0 (by omega)).1).trans (h2.2 0 (by omega)).1⟩
theorem ly1_ok {t : (Nat → Int) × Nat} {c : Int} (h : ∀ j, j < t.2 → 0 ≤ t.1 j ∧ t.1 j ≤ 126) : ∀ j, j < (ly1 t c).2 → 0 ≤ (ly1 t c).1 j ∧ (ly1 t c).1 j ≤ 126 := by
  intro j hj
  unfold ly1 at hj ⊢
  by_cases q : (c = 10 ∨ (32 ≤ c ∧ c ≤ 126)) ∧ t.2 < 1000
  · rw [if_pos q] at hj ⊢
    have hj : j < t.2 + 1 := hj
    show 0 ≤ va_up t.1 t.2 c j ∧ va_up t.1 t.2 c j ≤ 126
    by_cases e : j = t.2
    · rw [e, up_at]; omega
    · rw [up_ne e]; exact h j (by omega)
  · rw [if_neg q] at hj ⊢; exact h j hj
theorem lyN_ok {v : Int64} : ∀ (k : Nat) {t : (Nat → Int) × Nat}, (∀ j, j < t.2 → 0 ≤ t.1 j ∧ t.1 j ≤ 126) → ∀ j, j < (lyN v k t).2 → 0 ≤ (lyN v k t).1 j ∧ (lyN v k t).1 j ≤ 126
  | 0, t, h => h
  | k + 1, t, h => by
    show ∀ j, j < (lyN v k (ly1 t (byt v k))).2 → 0 ≤ (lyN v k (ly1 t (byt v k))).1 j ∧ (lyN v k (ly1 t (byt v k))).1 j ≤ 126
    exact lyN_ok k (ly1_ok h)
theorem fdN_ok {a b c : Int64} {t : (Nat → Int) × Nat} (h : ∀ j, j < t.2 → 0 ≤ t.1 j ∧ t.1 j ≤ 126) : ∀ j, j < (fdN a b c t).2 → 0 ≤ (fdN a b c t).1 j ∧ (fdN a b c t).1 j ≤ 126 := lyN_ok 8 (lyN_ok 8 (lyN_ok 8 h))
theorem rdV.det {X : bS} {z w y1 y2 : Int} (h1 : rdV X z w y1) (h2 : rdV X z w y2) : y1 = y2 := by
  rcases h1 with ⟨c, a, b, r, e⟩ | ⟨c, e⟩
  · rcases h2 with ⟨-, a2, b2, r2, e2⟩ | ⟨c2, -⟩
    · obtain ⟨ea, eb⟩ := rdA.det r r2
      rw [e, e2, ea, eb]
    · exact absurd c c2
  · rcases h2 with ⟨c2, -⟩ | ⟨-, e2⟩
    · exact absurd c2 c
    · rw [e, e2]
theorem pr_piece {c : Nat} {M : pM} {x y : Int} (h : INV c M) (hx : inR x) (hy : inR y) : PR yX11_piece yX12_piece [.ref 2, .int (iI x), .int (iI y)] [.ref 317, .int (iI x), .int (iI y)] M c := by
  obtain ⟨hS, T, L, B, k, lf, lg, N, pu, n, W, sn, ho, hw, hA, hC, hM, hN⟩ := h
  refine Ct_mono ?_ (kC_piece hS hA hC hx hy)
  rintro _ M2 ⟨rfl, h1, h2⟩
  refine ⟨_, rfl, h2.sm, Ct_mono ?_ (kM_piece (h2.ok hS) hA (hM.fc h2) hx hy)⟩
  rintro _ M3 ⟨rfl, g1, g2⟩
  exact ⟨rfl, INV.mk9 hS h2 g2 hA h1 g1 (by omega)⟩
theorem pr_shows {c : Nat} {M : pM} {x y : Int} (h : INV c M) (hx : inR x) (hy : inR y) : PR yX11_shows yX12_shows [.ref 2, .int (iI x), .int (iI y)] [.ref 317, .int (iI x), .int (iI y)] M c := by
  obtain ⟨hS, T, L, B, k, lf, lg, N, pu, n, W, sn, ho, hw, hA, hC, hM, hN⟩ := h
  refine Ct_mono ?_ (kC_shows hS hA hC hx hy)
  rintro _ M2 ⟨rfl, h1, h2⟩
  refine ⟨_, rfl, h2.sm, Ct_mono ?_ (kM_shows (h2.ok hS) hA (hM.fc h2) hx hy)⟩
  rintro _ M3 ⟨rfl, g1, g2⟩
  exact ⟨rfl, INV.mk9 hS h2 g2 hA h1 g1 (by omega)⟩
theorem pr_train {c : Nat} {M : pM} {x y : Int} (h : INV c M) (hx : inR x) (hy : inR y) : PR yX11_train yX12_train [.ref 2, .int (iI x), .int (iI y)] [.ref 317, .int (iI x), .int (iI y)] M c := by
  obtain ⟨hS, T, L, B, k, lf, lg, N, pu, n, W, sn, ho, hw, hA, hC, hM, hN⟩ := h
  refine Ct_mono ?_ (kC_train hS hA hC hx hy)
  rintro _ M2 ⟨rfl, h1, h2⟩
  refine ⟨_, rfl, h2.sm, Ct_mono ?_ (kM_train (h2.ok hS) hA (hM.fc h2) hx hy)⟩
  rintro _ M3 ⟨rfl, g1, g2⟩
  exact ⟨rfl, INV.mk9 hS h2 g2 hA h1 g1 (by omega)⟩
theorem pr_lever {c : Nat} {M : pM} {z : Int} (h : INV c M) (hz : inR z) : PR yX11_lever yX12_lever [.ref 2, .int (iI z)] [.ref 317, .int (iI z)] M c := by
  obtain ⟨hS, T, L, B, k, lf, lg, N, pu, n, W, sn, ho, hw, hA, hC, hM, hN⟩ := h
  refine Ct_mono ?_ (kC_lever hS hA hC hz)
  rintro _ M2 ⟨rfl, h1, h2⟩
  refine ⟨_, rfl, h2.sm, Ct_mono ?_ (kM_lever (h2.ok hS) hA (hM.fc h2) hz)⟩
  rintro _ M3 ⟨rfl, g1, g2⟩
  exact ⟨rfl, INV.mk9 hS h2 g2 hA h1 g1 (by omega)⟩
theorem pr_logged {c : Nat} {M : pM} {z : Int} (h : INV c M) (hz : inR z) : PR yX11_logged yX12_logged [.ref 2, .int (iI z)] [.ref 317, .int (iI z)] M c := by
  obtain ⟨hS, T, L, B, k, lf, lg, N, pu, n, W, sn, ho, hw, hA, hC, hM, hN⟩ := h
  refine Ct_mono ?_ (kC_logged hS hA hC hz)
  rintro _ M2 ⟨rfl, h1, h2⟩
  refine ⟨_, rfl, h2.sm, Ct_mono ?_ (kM_logged (h2.ok hS) hA (hM.fc h2) hz)⟩
  rintro _ M3 ⟨rfl, g1, g2⟩
  exact ⟨rfl, INV.mk9 hS h2 g2 hA h1 g1 (by omega)⟩
theorem pr_count {c : Nat} {M : pM} {z : Int} (h : INV c M) (hz : inR z) : PR yX11_count yX12_count [.ref 2, .int (iI z)] [.ref 317, .int (iI z)] M c := by
  obtain ⟨hS, T, L, B, k, lf, lg, N, pu, n, W, sn, ho, hw, hA, hC, hM, hN⟩ := h
  refine Ct_mono ?_ (kC_count hS hA hC hz)
  rintro _ M2 ⟨rfl, h1, h2⟩
  refine ⟨_, rfl, h2.sm, Ct_mono ?_ (kM_count (h2.ok hS) hA (hM.fc h2) hz)⟩
  rintro _ M3 ⟨rfl, g1, g2⟩
  exact ⟨rfl, INV.mk9 hS h2 g2 hA h1 g1 (by omega)⟩
theorem pr_test {c : Nat} {M : pM} {z : Int} (h : INV c M) (hz : inR z) : PR yX11_test yX12_test [.ref 2, .int (iI z)] [.ref 317, .int (iI z)] M c := by
  obtain ⟨hS, T, L, B, k, lf, lg, N, pu, n, W, sn, ho, hw, hA, hC, hM, hN⟩ := h
  refine Ct_mono ?_ (kC_test hS hA hC hz)
  rintro _ M2 ⟨rfl, h1, h2⟩
  refine ⟨_, rfl, h2.sm, Ct_mono ?_ (kM_test (h2.ok hS) hA (hM.fc h2) hz)⟩
  rintro _ M3 ⟨rfl, g1, g2⟩
  exact ⟨rfl, INV.mk9 hS h2 g2 hA h1 g1 (by omega)⟩
theorem pr_way {c : Nat} {M : pM}  (h : INV c M)  : PR yX11_way yX12_way [.ref 2] [.ref 317] M c := by
  obtain ⟨hS, T, L, B, k, lf, lg, N, pu, n, W, sn, ho, hw, hA, hC, hM, hN⟩ := h
  refine Ct_mono ?_ (kC_way hS hA hC )
  rintro _ M2 ⟨rfl, h1, h2⟩
  refine ⟨_, rfl, h2.sm, Ct_mono ?_ (kM_way (h2.ok hS) hA (hM.fc h2) )⟩
  rintro _ M3 ⟨rfl, g1, g2⟩
  exact ⟨rfl, INV.mk9 hS h2 g2 hA h1 g1 (by omega)⟩
theorem pr_step {c : Nat} {M : pM} {i : Int} (h : INV c M) (hi : inR i) : PR yX11_step yX12_step [.ref 2, .int (iI i)] [.ref 317, .int (iI i)] M c := by
  obtain ⟨hS, T, L, B, k, lf, lg, N, pu, n, W, sn, ho, hw, hA, hC, hM, hN⟩ := h
  refine Ct_mono ?_ (kC_step hS hA hC hi)
  rintro _ M2 ⟨rfl, h1, h2⟩
  refine ⟨_, rfl, h2.sm, Ct_mono ?_ (kM_step (h2.ok hS) hA (hM.fc h2) hi)⟩
  rintro _ M3 ⟨rfl, g1, g2⟩
  exact ⟨rfl, INV.mk9 hS h2 g2 hA h1 g1 (by omega)⟩
theorem pr_alike {c : Nat} {M : pM} {a b : Int} (h : INV c M) (ha : inR a) (hb : inR b) : PR yX11_alike yX12_alike [.ref 2, .int (iI a), .int (iI b)] [.ref 317, .int (iI a), .int (iI b)] M c := by
  obtain ⟨hS, T, L, B, k, lf, lg, N, pu, n, W, sn, ho, hw, hA, hC, hM, hN⟩ := h
  refine Ct_mono ?_ (kC_alike hS hA hC ha hb)
  rintro _ M2 ⟨rfl, h1, h2⟩
  refine ⟨_, rfl, h2.sm, Ct_mono ?_ (kM_alike (h2.ok hS) hA (hM.fc h2) ha hb)⟩
  rintro _ M3 ⟨rfl, g1, g2⟩
  exact ⟨rfl, INV.mk9 hS h2 g2 hA h1 g1 (by omega)⟩
theorem pr_telling {c : Nat} {M : pM} {a b i : Int} (h : INV c M) (ha : inR a) (hb : inR b) (hi : inR i) : PR yX11_telling yX12_telling [.ref 2, .int (iI a), .int (iI b), .int (iI i)] [.ref 317, .int (iI a), .int (iI b), .int (iI i)] M c := by
  obtain ⟨hS, T, L, B, k, lf, lg, N, pu, n, W, sn, ho, hw, hA, hC, hM, hN⟩ := h
  refine Ct_mono ?_ (kC_telling hS hA hC ha hb hi)
  rintro _ M2 ⟨rfl, h1, h2⟩
  refine ⟨_, rfl, h2.sm, Ct_mono ?_ (kM_telling (h2.ok hS) hA (hM.fc h2) ha hb hi)⟩
  rintro _ M3 ⟨rfl, g1, g2⟩
  exact ⟨rfl, INV.mk9 hS h2 g2 hA h1 g1 (by omega)⟩
theorem pr_suspect {c : Nat} {M : pM} {z i : Int} (h : INV c M) (hz : inR z) (hi : inR i) : PR yX11_suspect yX12_suspect [.ref 2, .int (iI z), .int (iI i)] [.ref 317, .int (iI z), .int (iI i)] M c := by
  obtain ⟨hS, T, L, B, k, lf, lg, N, pu, n, W, sn, ho, hw, hA, hC, hM, hN⟩ := h
  refine Ct_mono ?_ (kC_suspect hS hA hC hz hi)
  rintro _ M2 ⟨rfl, h1, h2⟩
  refine ⟨_, rfl, h2.sm, Ct_mono ?_ (kM_suspect (h2.ok hS) hA (hM.fc h2) hz hi)⟩
  rintro _ M3 ⟨rfl, g1, g2⟩
  exact ⟨rfl, INV.mk9 hS h2 g2 hA h1 g1 (by omega)⟩
theorem pr_round {c : Nat} {M : pM} {z w : Int} (h : INV c M) (hz : inR z) (hw2 : inR w) : PR yX11_round yX12_round [.ref 2, .int (iI z), .int (iI w)] [.ref 317, .int (iI z), .int (iI w)] M c := by
  obtain ⟨hS, T, L, B, k, lf, lg, N, pu, n, W, sn, ho, hw, hA, hC, hM, hN⟩ := h
  refine Ct_mono ?_ (kC_round hS hA hC hz hw2)
  rintro _ M2 ⟨y, rfl, r1, h1, h2⟩
  refine ⟨_, rfl, h2.sm, Ct_mono ?_ (kM_round (h2.ok hS) hA (hM.fc h2) hz hw2)⟩
  rintro _ M3 ⟨y2, rfl, r2, g1, g2⟩
  rw [r2.det r1]
  exact ⟨rfl, INV.mk9 hS h2 g2 hA h1 g1 (by omega)⟩
theorem pr_feed {c0 : Nat} {M : pM} {a b c : Int64} (h : INV c0 M) : PR yX11_feed yX12_feed [.ref 2, .long a, .long b, .long c] [.ref 317, .long a, .long b, .long c] M c0 := by
  obtain ⟨hS, T, L, B, k, lf, lg, N, pu, n, W, sn, ho, hw, hA, hC, hM, hN⟩ := h
  refine Ct_mono ?_ (kC_feed hS hA hC )
  rintro _ M2 ⟨rfl, h1, h2⟩
  refine ⟨_, rfl, h2.sm, Ct_mono ?_ (kM_feed (h2.ok hS) hA (hM.fc h2) )⟩
  rintro _ M3 ⟨rfl, g1, g2⟩
  exact ⟨rfl, INV.mk9 hS h2 g2 ⟨⟨fdN_le hA.1.1, fdN_ok hA.1.2.1, hA.1.2.2⟩, hA.2⟩ h1 g1 (by omega)⟩
theorem pr_run {c : Nat} {M : pM} {z m : Int} (h : INV c M) (hc : c ≤ 600) (hz : inR z) (hm : inR m) : PR yX11_run yX12_run [.ref 2, .int (iI z), .int (iI m)] [.ref 317, .int (iI z), .int (iI m)] M c := by
  obtain ⟨hS, T, L, B, k, lf, lg, N, pu, n, W, sn, ho, hw, hA, hC, hM, hN⟩ := h
  by_cases q : (0 ≤ z ∧ z < 4) ∧ 1 ≤ m ∧ m ≤ 200
  · obtain ⟨h, rfl⟩ : ∃ h : Nat, z = (h : Int) := ⟨z.toNat, by omega⟩
    obtain ⟨m, rfl⟩ : ∃ m1 : Nat, m = (m1 : Int) := ⟨m.toNat, by omega⟩
    have hr := rnL_n m h (B 0, lg, N)
    have hr1 : N ≤ (rnL m h (B 0, lg, N)).2.2.2 := hr.1
    have hr2 : (rnL m h (B 0, lg, N)).2.2.2 ≤ N + m := hr.2.1
    have hk := rnL_ok m h (B 0, lg, N) hA.2.1.1 (by omega)
    have hA2 : AI T L (va_up B 0 (rnL m h (B 0, lg, N)).2.1) k lf (rnL m h (B 0, lg, N)).2.2.2 ho := ⟨⟨hA.1.1, hA.1.2.1, hA.1.2.2.1, by omega⟩, ⟨by rw [up_at]; exact hk, fun i hi => by rw [up_ne (by omega)]; exact hA.2.1.2 i hi⟩, hA.2.2.1, fun s hs l1 => by rw [up_ne (by omega)]; exact hA.2.2.2.1 s hs l1, hA.2.2.2.2⟩
    refine Ct_mono ?_ (kC_runY hS hA hC (by omega) ⟨by omega, by omega⟩)
    rintro _ M2 ⟨rfl, h1, h2⟩
    refine ⟨_, rfl, h2.sm, Ct_mono ?_ (kM_runY (h2.ok hS) hA (hM.fc h2) (by omega) ⟨by omega, by omega⟩)⟩
    rintro _ M3 ⟨rfl, g1, g2⟩
    exact ⟨rfl, INV.mk9 hS h2 g2 hA2 h1 g1 (by omega)⟩
  · refine Ct_mono ?_ (kC_runN hS hA hC hz hm q)
    rintro _ M2 ⟨rfl, h1, h2⟩
    refine ⟨_, rfl, h2.sm, Ct_mono ?_ (kM_runN (h2.ok hS) hA (hM.fc h2) hz hm q)⟩
    rintro _ M3 ⟨rfl, g1, g2⟩
    exact ⟨rfl, INV.mk9 hS h2 g2 hA h1 g1 (by omega)⟩
theorem pr_takeBack {c : Nat} {M : pM} (h : INV c M) : PR yX11_takeBack yX12_takeBack [.ref 2] [.ref 317] M c := by
  obtain ⟨hS, T, L, B, k, lf, lg, N, pu, n, W, sn, ho, hw, hA, hC, hM, hN⟩ := h
  by_cases q : k = 0
  · skip
    refine Ct_mono ?_ (kC_takeBackN hS hA hC q)
    rintro _ M2 ⟨rfl, h1, h2⟩
    refine ⟨_, rfl, h2.sm, Ct_mono ?_ (kM_takeBackN (h2.ok hS) hA (hM.fc h2) q)⟩
    rintro _ M3 ⟨rfl, g1, g2⟩
    exact ⟨rfl, INV.mk9 hS h2 g2 hA h1 g1 (by omega)⟩
  · have hA2 : AI T L (va_up B 0 (B (5 + (k - 1)))) (k - 1) lf N ho := ⟨⟨hA.1.1, hA.1.2.1, by have := hA.1.2.2.1; omega, hA.1.2.2.2⟩, ⟨by rw [up_at]; exact hA.2.1.2 (k - 1) (by omega), fun i hi => by rw [up_ne (by omega)]; exact hA.2.1.2 i (by omega)⟩, hA.2.2.1, fun s hs l1 => by rw [up_ne (by omega)]; exact hA.2.2.2.1 s hs l1, hA.2.2.2.2⟩
    refine Ct_mono ?_ (kC_takeBackY hS hA hC q)
    rintro _ M2 ⟨rfl, h1, h2⟩
    refine ⟨_, rfl, h2.sm, Ct_mono ?_ (kM_takeBackY (h2.ok hS) hA (hM.fc h2) q)⟩
    rintro _ M3 ⟨rfl, g1, g2⟩
    exact ⟨rfl, INV.mk9 hS h2 g2 hA2 h1 g1 (by omega)⟩
theorem pr_shelf {c : Nat} {M : pM} {z y : Int} (h : INV c M) (hz : inR z) (hy : y = 0 ∨ y = 1) : PR yX11_shelf yX12_shelf [.ref 2, .int (iI z), .int (iI y)] [.ref 317, .int (iI z), .int (iI y)] M c := by
  obtain ⟨hS, T, L, B, k, lf, lg, N, pu, n, W, sn, ho, hw, hA, hC, hM, hN⟩ := h
  by_cases q : 0 ≤ z ∧ z < 4
  · obtain ⟨s, rfl⟩ : ∃ s : Nat, z = (s : Int) := ⟨z.toNat, by omega⟩
    have hs : s < 4 := by omega
    have hl := hA.2.2.1 s hs
    rcases hy with rfl | rfl
    · have hA2 : AI T L (va_up B (1 + s) (B 0)) k (va_up lf s 1) N ho := by
        refine ⟨hA.1, ⟨by rw [up_ne (by omega)]; exact hA.2.1.1, fun i hi => by rw [up_ne (by omega)]; exact hA.2.1.2 i hi⟩, fun t ht => ?_, fun t ht l1 => ?_, hA.2.2.2.2⟩
        · by_cases u : t = s
          · rw [u, up_at]; exact ⟨by decide, by decide⟩
          · rw [up_ne u]; exact hA.2.2.1 t ht
        · by_cases u : t = s
          · rw [u, up_at]; exact hA.2.1.1
          · rw [up_ne u] at l1; rw [up_ne (by omega)]; exact hA.2.2.2.1 t ht l1
      refine Ct_mono ?_ (kC_shelfP hS hA hC hs)
      rintro _ M2 ⟨rfl, h1, h2⟩
      refine ⟨_, rfl, h2.sm, Ct_mono ?_ (kM_shelfP (h2.ok hS) hA (hM.fc h2) hs)⟩
      rintro _ M3 ⟨rfl, g1, g2⟩
      exact ⟨rfl, INV.mk9 hS h2 g2 hA2 h1 g1 (by omega)⟩
    · by_cases e : lf s = 1
      · have hA2 : AI T L (va_up B 0 (B (1 + s))) 0 lf N ho := ⟨⟨hA.1.1, hA.1.2.1, by omega, hA.1.2.2.2⟩, ⟨by rw [up_at]; exact hA.2.2.2.1 s hs e, fun i hi => absurd hi (by omega)⟩, hA.2.2.1, fun t ht l1 => by rw [up_ne (by omega)]; exact hA.2.2.2.1 t ht l1, hA.2.2.2.2⟩
        refine Ct_mono ?_ (kC_shelfB hS hA hC hs e)
        rintro _ M2 ⟨rfl, h1, h2⟩
        refine ⟨_, rfl, h2.sm, Ct_mono ?_ (kM_shelfB (h2.ok hS) hA (hM.fc h2) hs e)⟩
        rintro _ M3 ⟨rfl, g1, g2⟩
        exact ⟨rfl, INV.mk9 hS h2 g2 hA2 h1 g1 (by omega)⟩
      · have e0 : lf s = 0 := by omega
        refine Ct_mono ?_ (kC_shelfE hS hA hC hs e0)
        rintro _ M2 ⟨rfl, h1, h2⟩
        refine ⟨_, rfl, h2.sm, Ct_mono ?_ (kM_shelfE (h2.ok hS) hA (hM.fc h2) hs e0)⟩
        rintro _ M3 ⟨rfl, g1, g2⟩
        exact ⟨rfl, INV.mk9 hS h2 g2 hA h1 g1 (by omega)⟩
  · skip
    refine Ct_mono ?_ (kC_shelfN hS hA hC hz q)
    rintro _ M2 ⟨rfl, h1, h2⟩
    refine ⟨_, rfl, h2.sm, Ct_mono ?_ (kM_shelfN (h2.ok hS) hA (hM.fc h2) hz q)⟩
    rintro _ M3 ⟨rfl, g1, g2⟩
    exact ⟨rfl, INV.mk9 hS h2 g2 hA h1 g1 (by omega)⟩
theorem pr_sight {c : Nat} {M : pM} {z w : Int} (h : INV c M) (hz : inR z) (hw2 : inR w) : PR yX11_sight yX12_sight [.ref 2, .int (iI z), .int (iI w)] [.ref 317, .int (iI z), .int (iI w)] M c := by
  obtain ⟨hS, T, L, B, k, lf, lg, N, pu, n, W, sn, ho, hw, hA, hC, hM, hN⟩ := h
  by_cases q : z = -1
  · skip
    refine Ct_mono ?_ (kC_sightF hS hA hC hz hw2 q)
    rintro _ M2 ⟨rfl, h1, h2⟩
    refine ⟨_, rfl, h2.sm, Ct_mono ?_ (kM_sightF (h2.ok hS) hA (hM.fc h2) hz hw2 q)⟩
    rintro _ M3 ⟨rfl, g1, g2⟩
    exact ⟨rfl, INV.mk9 hS h2 g2 hA h1 g1 (by omega)⟩
  · by_cases q2 : sgk sn z w
    · have hA2 : AI T L B k lf N (va_up ho sn z.toNat) := ⟨hA.1, hA.2.1, hA.2.2.1, hA.2.2.2.1, fun i => by
        by_cases u : i = sn
        · rw [u, up_at]; have := q2.2.1; have := q2.1; omega
        · rw [up_ne u]; exact hA.2.2.2.2 i⟩
      refine Ct_mono ?_ (kC_sightY hS hA hC hz hw2 q q2)
      rintro _ M2 ⟨rfl, h1, h2⟩
      refine ⟨_, rfl, h2.sm, Ct_mono ?_ (kM_sightY (h2.ok hS) hA (hM.fc h2) hz hw2 q q2)⟩
      rintro _ M3 ⟨rfl, g1, g2⟩
      exact ⟨rfl, INV.mk9 hS h2 g2 hA2 h1 g1 (by omega)⟩
    · skip
      refine Ct_mono ?_ (kC_sightN hS hA hC hz hw2 q q2)
      rintro _ M2 ⟨rfl, h1, h2⟩
      refine ⟨_, rfl, h2.sm, Ct_mono ?_ (kM_sightN (h2.ok hS) hA (hM.fc h2) hz hw2 q q2)⟩
      rintro _ M3 ⟨rfl, g1, g2⟩
      exact ⟨rfl, INV.mk9 hS h2 g2 hA h1 g1 (by omega)⟩
theorem pr_wish {c : Nat} {M : pM} {x y w : Int} (h : INV c M) (hx : inR x) (hy : inR y) (hw2 : inR w) : PR yX11_wish yX12_wish [.ref 2, .int (iI x), .int (iI y), .int (iI w)] [.ref 317, .int (iI x), .int (iI y), .int (iI w)] M c := by
  obtain ⟨hS, T, L, B, k, lf, lg, N, pu, n, W, sn, ho, hw, hA, hC, hM, hN⟩ := h
  by_cases q : wsK x y w
  · skip
    refine Ct_mono ?_ (kC_wishY hS hA hC hx hy hw2 q)
    rintro _ M2 ⟨rfl, h1, h2⟩
    refine ⟨_, rfl, h2.sm, Ct_mono ?_ (kM_wishY (h2.ok hS) hA (hM.fc h2) hx hy hw2 q)⟩
    rintro _ M3 ⟨rfl, g1, g2⟩
    exact ⟨rfl, INV.mk9 hS h2 g2 hA h1 g1 (by omega)⟩
  · skip
    refine Ct_mono ?_ (kC_wishN hS hA hC hx hy hw2 q)
    rintro _ M2 ⟨rfl, h1, h2⟩
    refine ⟨_, rfl, h2.sm, Ct_mono ?_ (kM_wishN (h2.ok hS) hA (hM.fc h2) hx hy hw2 q)⟩
    rintro _ M3 ⟨rfl, g1, g2⟩
    exact ⟨rfl, INV.mk9 hS h2 g2 hA h1 g1 (by omega)⟩
theorem AI.b {T : Nat → Int} {L : Nat} {B B2 : Nat → bS} {k : Nat} {lf : Nat → Int} {N : Nat} {ho : Nat → Nat} (hA : AI T L B k lf N ho) (eb : ∀ i, i < 25 → B2 i = B i) : AI T 0 B2 k lf N ho :=
  ⟨⟨by omega, fun j hj => absurd hj (by omega), hA.1.2.2⟩, ⟨by rw [eb 0 (by decide)]; exact hA.2.1.1, fun i hi => by rw [eb (5 + i) (by have := hA.1.2.2.1; omega)]; exact hA.2.1.2 i hi⟩, hA.2.2.1, fun s hs l1 => by rw [eb (1 + s) (by omega)]; exact hA.2.2.2.1 s hs l1, hA.2.2.2.2⟩
theorem AI.d {T : Nat → Int} {L : Nat} {B : Nat → bS} {k : Nat} {lf : Nat → Int} {N : Nat} {ho : Nat → Nat} (hA : AI T L B k lf N ho) (c : dwV T L (B 0) = 0) : AI T 0 (keB k (va_up (va_up B 25 (B 0)) 0 ((dwR T L (B 0)).1, (dwR T L (B 0)).2.1))) (keN k) lf N ho := by
  obtain ⟨e1, e2⟩ := dwV_0 c
  obtain ⟨u, ns, hP⟩ := ((rdF_st (s := T) hA.1.1).1.2 e1).1
  have ok := PTq_ok hP hA.2.1.1.1 hA.2.1.1.2
  have hk := hA.1.2.2.1
  refine ⟨⟨by omega, fun j hj => absurd hj (by omega), by unfold keN; split <;> omega, hA.1.2.2.2⟩, ⟨?_, fun i hi => ?_⟩, hA.2.2.1, fun s hs l1 => ?_, hA.2.2.2.2⟩
  · rw [keB_lo (by decide), up_at]; exact ⟨ok.1.1, ok.1.2.1⟩
  · by_cases q : k = 20
    · subst q
      have hi : i < 20 := by unfold keN at hi; rw [if_pos rfl] at hi; exact hi
      rw [keB_20 (B := B) hi (fun j h1 h2 => by rw [up_ne (by omega), up_ne (by omega)])]
      split
      · exact hA.2.1.2 (i + 1) (by omega)
      · rw [up_ne (by decide), up_at]; exact hA.2.1.1
    · have hi : i < k + 1 := by unfold keN at hi; rw [if_neg q] at hi; exact hi
      unfold keB
      rw [if_neg q]
      by_cases u : i = k
      · rw [u, up_at, up_ne (by decide), up_at]; exact hA.2.1.1
      · rw [up_ne (by omega), up_ne (by omega), up_ne (by omega)]; exact hA.2.1.2 i (by omega)
  · rw [keB_lo (by omega), up_ne (by omega), up_ne (by omega)]; exact hA.2.2.2.1 s hs l1
theorem pr_draw {c : Nat} {M : pM} (h : INV c M) : PR yX11_draw yX12_draw [.ref 2] [.ref 317] M c := by
  obtain ⟨hS, T, L, B, k, lf, lg, N, pu, n, W, sn, ho, hw, hA, hC, hM, hN⟩ := h
  by_cases q : dwV T L (B 0) = 0
  · skip
    refine Ct_mono ?_ (kC_drawY hS hA hC q)
    rintro _ M2 ⟨rfl, h1, h2⟩
    refine ⟨_, rfl, h2.sm, Ct_mono ?_ (kM_drawY (h2.ok hS) hA (hM.fc h2) q)⟩
    rintro _ M3 ⟨rfl, g1, g2⟩
    exact ⟨rfl, INV.mk9 hS h2 g2 (hA.d q) h1 g1 (by omega)⟩
  · refine Ct_mono ?_ (kC_drawN hS hA hC q)
    rintro _ M2 ⟨rfl, h1, h2⟩
    refine ⟨_, rfl, h2.sm, Ct_mono ?_ (kM_drawN (h2.ok hS) hA (hM.fc h2) q)⟩
    rintro _ M3 ⟨y, rfl, ey, g2, B2, eb, g1⟩
    rw [ey]
    exact ⟨rfl, INV.mk9 hS h2 g2 (hA.b eb) (h1.of (fun _ _ _ => ⟨rfl, rfl⟩) eb) g1 (by omega)⟩
