/-! the model's calls, by what it holds -/
theorem MD.ft {M M2 : pM} {i : Nat} {D : bD} {sh : Nat → Int} (h : MD M i D sh) (hf : frT M M2) (hi : i < 26) : MD M2 i D sh := by
  obtain ⟨h1, h2, h3⟩ := h
  refine ⟨fun q hq => ?_, fun q hq => ?_, fun q hq => ?_⟩
  · have := hf.2.2.1 (156 * i + q) (by omega)
    rw [this.1, this.2.1, this.2.2]; exact h1 q hq
  · have := hf.2.2.2.2 (4 * i + q) (by omega)
    rw [this.1, this.2.1, this.2.2]; exact h2 q hq
  · rw [hf.2.2.2.1 (13 * i + q) (by omega)]; exact h3 q hq
section MIK
variable {M M1 M2 : pM} {T : Nat → Int} {L : Nat} {B : Nat → bS} {k : Nat} {lf lg : Nat → Int} {N pu n : Nat} {W : Nat → Int} {sn : Nat} {ho : Nat → Nat} {hw : Nat → Int}
theorem MI.fT (h : MI M T L B k lf lg N pu n W sn ho hw) (hf : frT (pI M 317 0 0) M2) : MI M2 T L B k lf lg N pu n W sn ho hw ∧ fM M M2 := by
  have h0 := h.z
  refine ⟨h0.ke (fun i hi => (h0.2.1.1 i hi).ft hf hi) (hf.1.j (by decide)) (fun q hq => hf.2.1 q (by revert hq; simp only [List.mem_cons, List.not_mem_nil, or_false]; omega)) (fun a ha => hf.1.i (by revert ha; simp only [List.mem_cons, List.not_mem_nil, or_false]; omega)), ?_⟩
  exact fM.z.tr (fM.of hf.1 (by decide))
theorem MI.fV (h : MI M T L B k lf lg N pu n W sn ho hw) (h1 : fr [317, 335, 336] (pI M 317 0 0) M1 ∧ ∀ j, j ≠ 51 → M1.2.1 317 j = (pI M 317 0 0).2.1 317 j) (hf : frV M1 M2) : MI M2 T L B k lf lg N pu n W sn ho hw ∧ fM M M2 := by
  have h0 := h.z
  have h2 : MI M1 T L B k lf lg N pu n W sn ho hw := h0.ke (h0.2.1.1.ofl h1.1 (by decide)) (h1.1.j (by decide)) (fun q hq => h1.2 q (by revert hq; simp only [List.mem_cons, List.not_mem_nil, or_false]; omega)) (fun a ha => h1.1.i (by revert ha; simp only [List.mem_cons, List.not_mem_nil, or_false]; omega))
  refine ⟨h2.ke (fun i hi => (h2.2.1.1 i hi).fv hf hi) (hf.1.j (by decide)) (fun q hq => hf.2.1 q (by revert hq; simp only [List.mem_cons, List.not_mem_nil, or_false]; omega)) (fun a ha => hf.1.i (by revert ha; simp only [List.mem_cons, List.not_mem_nil, or_false]; omega)), ?_⟩
  exact (fM.z.tr (fM.of h1.1 (by decide))).tr (fM.of hf.1 (by decide))
theorem MI.f3 (h : MI M T L B k lf lg N pu n W sn ho hw) (h1 : fr [317, 335, 336] M M2) (h2 : ∀ j, j ≠ 0 → M2.2.1 317 j = M.2.1 317 j) : MI M2 T L B k lf lg N pu n W sn ho hw ∧ fM M M2 :=
  ⟨h.ke (h.2.1.1.ofl h1 (by decide)) (h1.j (by decide)) (fun q hq => h2 q (by revert hq; simp only [List.mem_cons, List.not_mem_nil, or_false]; omega)) (fun a ha => h1.i (by revert ha; simp only [List.mem_cons, List.not_mem_nil, or_false]; omega)), fM.of h1 (by decide)⟩
theorem MI.zz (h : MI M T L B k lf lg N pu n W sn ho hw) (e : M2 = pI M 317 0 0) : MI M2 T L B k lf lg N pu n W sn ho hw ∧ fM M M2 := by rw [e]; exact ⟨h.z, fM.z⟩
end MIK
theorem kM_piece {M : pM} {T : Nat → Int} {L : Nat} {B : Nat → bS} {k : Nat} {lf lg : Nat → Int} {N pu n : Nat} {W : Nat → Int} {sn : Nat} {ho : Nat → Nat} {hw : Nat → Int} {x y : Int} (hS : sOk M.1) (hA : AI T L B k lf N ho) (hI : MI M T L B k lf lg N pu n W sn ho hw) (hx : inR x) (hy : inR y) : Ct 340 0 0 yX12_piece [.ref 317, .int (iI x), .int (iI y)] M (fun v M2 => v = some (.int (iI (if 0 ≤ x ∧ x < 13 ∧ 0 ≤ y ∧ y < 12 then (B 0).1.1.1 (13 * y + x).toNat else -1))) ∧ MI M2 T L B k lf lg N pu n W sn ho hw ∧ fM M M2) := by
  refine Ct_le (d := 2) (by decide) (Ct_mono ?_ (c_X12_piece (d := 0) hS hx hy rfl hI.2.1.1))
  rintro _ M2 ⟨rfl, h⟩
  exact ⟨rfl, hI.zz h⟩
theorem kM_shows {M : pM} {T : Nat → Int} {L : Nat} {B : Nat → bS} {k : Nat} {lf lg : Nat → Int} {N pu n : Nat} {W : Nat → Int} {sn : Nat} {ho : Nat → Nat} {hw : Nat → Int} {x y : Int} (hS : sOk M.1) (hA : AI T L B k lf N ho) (hI : MI M T L B k lf lg N pu n W sn ho hw) (hx : inR x) (hy : inR y) : Ct 340 0 0 yX12_shows [.ref 317, .int (iI x), .int (iI y)] M (fun v M2 => v = some (.int (iI (if 0 ≤ x ∧ x < 13 ∧ 0 ≤ y ∧ y < 12 then shV (B 0) (13 * y + x).toNat else -1))) ∧ MI M2 T L B k lf lg N pu n W sn ho hw ∧ fM M M2) := by
  refine Ct_le (d := 2) (by decide) (Ct_mono ?_ (c_X12_shows (d := 0) hS hx hy rfl hI.2.1.1 hA.2.1.1.2))
  rintro _ M2 ⟨rfl, h⟩
  exact ⟨rfl, hI.zz h⟩
theorem kM_train {M : pM} {T : Nat → Int} {L : Nat} {B : Nat → bS} {k : Nat} {lf lg : Nat → Int} {N pu n : Nat} {W : Nat → Int} {sn : Nat} {ho : Nat → Nat} {hw : Nat → Int} {x y : Int} (hS : sOk M.1) (hA : AI T L B k lf N ho) (hI : MI M T L B k lf lg N pu n W sn ho hw) (hx : inR x) (hy : inR y) : Ct 340 0 0 yX12_train [.ref 317, .int (iI x), .int (iI y)] M (fun v M2 => v = some (.int (iI (if 0 ≤ x ∧ x < 13 ∧ 0 ≤ y ∧ y < 12 then bT (B 0).1 (13 * y + x).toNat else -1))) ∧ MI M2 T L B k lf lg N pu n W sn ho hw ∧ fM M M2) := by
  refine Ct_le (d := 3) (by decide) (Ct_mono ?_ (c_X12_train (d := 0) hS hx hy rfl hI.2.1.1 hA.2.1.1.2))
  rintro _ M2 ⟨rfl, h1, h2, -⟩
  exact ⟨rfl, hI.f3 h1 h2⟩
theorem kM_lever {M : pM} {T : Nat → Int} {L : Nat} {B : Nat → bS} {k : Nat} {lf lg : Nat → Int} {N pu n : Nat} {W : Nat → Int} {sn : Nat} {ho : Nat → Nat} {hw : Nat → Int} {z : Int} (hS : sOk M.1) (hA : AI T L B k lf N ho) (hI : MI M T L B k lf lg N pu n W sn ho hw) (hz : inR z) : Ct 340 0 0 yX12_lever [.ref 317, .int (iI z)] M (fun v M2 => v = some (.int (iI (if 0 ≤ z ∧ z < 13 then (B 0).1.2.2.2.1 z.toNat else -1))) ∧ MI M2 T L B k lf lg N pu n W sn ho hw ∧ fM M M2) := by
  refine Ct_le (d := 1) (by decide) (Ct_mono ?_ (c_X12_lever (d := 0) hS hz hI.2.1.1))
  rintro _ M2 ⟨rfl, h⟩
  exact ⟨rfl, hI.zz h⟩
theorem kM_hopper {M : pM} {T : Nat → Int} {L : Nat} {B : Nat → bS} {k : Nat} {lf lg : Nat → Int} {N pu n : Nat} {W : Nat → Int} {sn : Nat} {ho : Nat → Nat} {hw : Nat → Int} {h : Nat} {w : Int} (hS : sOk M.1) (hA : AI T L B k lf N ho) (hI : MI M T L B k lf lg N pu n W sn ho hw) (hh : h < 4) (hw2 : 0 ≤ w ∧ w ≤ 2) : Ct 340 0 0 yX12_hopper [.ref 317, .int (iI ((h : Nat) : Int)), .int (iI w)] M (fun v M2 => v = some (.int (iI (if w = 0 then (((B 0).1.2.2.1 h : Nat) : Int) else if w = 1 then (B 0).1.2.1 h else (B 0).1.2.2.2.2 h))) ∧ MI M2 T L B k lf lg N pu n W sn ho hw ∧ fM M M2 ∧ M2.2.1 317 0 = 0) := by
  refine Ct_le (d := 2) (by decide) (Ct_mono ?_ (c_X12_hopper (d := 0) hS hh hw2 hI.2.1.1))
  rintro _ M2 ⟨rfl, h⟩
  exact ⟨rfl, (hI.zz h).1, (hI.zz h).2, by rw [h, pI_at]⟩
theorem kM_logged {M : pM} {T : Nat → Int} {L : Nat} {B : Nat → bS} {k : Nat} {lf lg : Nat → Int} {N pu n : Nat} {W : Nat → Int} {sn : Nat} {ho : Nat → Nat} {hw : Nat → Int} {z : Int} (hS : sOk M.1) (hA : AI T L B k lf N ho) (hI : MI M T L B k lf lg N pu n W sn ho hw) (hz : inR z) : Ct 340 0 0 yX12_logged [.ref 317, .int (iI z)] M (fun v M2 => v = some (.int (iI (if 0 ≤ z ∧ z < 100 ∧ z < ((N : Nat) : Int) then lg ((((N : Nat) : Int) - 1 - z) % 100).toNat else -1))) ∧ MI M2 T L B k lf lg N pu n W sn ho hw ∧ fM M M2) := by
  refine Ct_le (d := 1) (by decide) (Ct_mono ?_ (c_X12_logged (d := 0) (x := (B 0, lg, N)) hS hz hI.2.2.2.1 (by have := hA.1.2.2.2; show N ≤ _; omega)))
  rintro _ M2 ⟨rfl, h⟩
  exact ⟨rfl, hI.zz h⟩
theorem kM_count {M : pM} {T : Nat → Int} {L : Nat} {B : Nat → bS} {k : Nat} {lf lg : Nat → Int} {N pu n : Nat} {W : Nat → Int} {sn : Nat} {ho : Nat → Nat} {hw : Nat → Int} {z : Int} (hS : sOk M.1) (hA : AI T L B k lf N ho) (hI : MI M T L B k lf lg N pu n W sn ho hw) (hz : inR z) : Ct 340 0 0 yX12_count [.ref 317, .int (iI z)] M (fun v M2 => v = some (.int (iI (cnV (B 0) N k L n sn pu z))) ∧ MI M2 T L B k lf lg N pu n W sn ho hw ∧ fM M M2) := by
  refine Ct_le (d := 4) (by decide) (Ct_mono ?_ (c_X12_count (d := 0) (B := B) (n := N) (k := k) (L := L) (w := n) (si := sn) (pu := pu) hS hz hI.2.1.1 hA.2.1.1.1 hA.2.1.1.2 hI.2.2.2.1.2.1 hI.2.1.2.1 hI.1.2.1 hI.2.2.2.2.1.1 hI.2.2.2.2.2.1 hI.2.1.2.2))
  rintro _ M2 ⟨rfl, h1, h2, -⟩
  exact ⟨rfl, hI.f3 h1 h2⟩
theorem kM_tries {M : pM} {T : Nat → Int} {L : Nat} {B : Nat → bS} {k : Nat} {lf lg : Nat → Int} {N pu n : Nat} {W : Nat → Int} {sn : Nat} {ho : Nat → Nat} {hw : Nat → Int} {h : Nat} (hS : sOk M.1) (hA : AI T L B k lf N ho) (hI : MI M T L B k lf lg N pu n W sn ho hw) (hh : h < 4) : Ct 340 0 0 yX12_tries [.ref 317, .int (iI ((h : Nat) : Int))] M (fun v M2 => v = some (.int (iI ((bH (B 0).1 (-2) (B 0).2 h).1))) ∧ MI M2 T L B k lf lg N pu n W sn ho hw ∧ fM M M2 ∧ M2.2.1 317 0 = 0) := by
  refine Ct_le (d := 4) (by decide) (Ct_mono ?_ (c_X12_tries (d := 0) hS hh hI.2.1.1 hA.2.1.1.1 hA.2.1.1.2))
  rintro _ M2 ⟨rfl, h1, h2, h3, h4⟩
  exact ⟨rfl, hI.ke h1 (h2.j (by decide)) (fun q hq => h3 q (by revert hq; simp only [List.mem_cons, List.not_mem_nil, or_false]; omega)) (fun a ha => h2.i (by revert ha; simp only [List.mem_cons, List.not_mem_nil, or_false]; omega)), fM.of h2 (by decide), h4⟩
theorem kM_way {M : pM} {T : Nat → Int} {L : Nat} {B : Nat → bS} {k : Nat} {lf lg : Nat → Int} {N pu n : Nat} {W : Nat → Int} {sn : Nat} {ho : Nat → Nat} {hw : Nat → Int}  (hS : sOk M.1) (hA : AI T L B k lf N ho) (hI : MI M T L B k lf lg N pu n W sn ho hw)  : Ct 340 0 0 yX12_way [.ref 317] M (fun v M2 => v = some (.int (iI ((wyF (B 0).1 W (B 0).2).1))) ∧ MI M2 T L B k lf lg N pu n W sn ho hw ∧ fM M M2) := by
  refine Ct_le (d := 5) (by decide) (Ct_mono ?_ (c_X12_way (d := 0) (n := n) (W := W) hS hI.2.1.1 hA.2.1.1.1 hA.2.1.1.2 hI.2.2.2.2.1.1 hI.2.2.2.2.1.2))
  rintro _ M2 ⟨rfl, h⟩
  exact ⟨rfl, hI.fT h⟩
theorem kM_step {M : pM} {T : Nat → Int} {L : Nat} {B : Nat → bS} {k : Nat} {lf lg : Nat → Int} {N pu n : Nat} {W : Nat → Int} {sn : Nat} {ho : Nat → Nat} {hw : Nat → Int} {i : Int} (hS : sOk M.1) (hA : AI T L B k lf N ho) (hI : MI M T L B k lf lg N pu n W sn ho hw) (hi : inR i) : Ct 340 0 0 yX12_step [.ref 317, .int (iI i)] M (fun v M2 => v = some (.int (iI (if 0 ≤ i ∧ i < (wyF (B 0).1 W (B 0).2).1 then (wyF (B 0).1 W (B 0).2).2 i.toNat else -1))) ∧ MI M2 T L B k lf lg N pu n W sn ho hw ∧ fM M M2) := by
  refine Ct_le (d := 5) (by decide) (Ct_mono ?_ (c_X12_step (d := 0) (n := n) (W := W) hS hI.2.1.1 hA.2.1.1.1 hA.2.1.1.2 hI.2.2.2.2.1.1 hI.2.2.2.2.1.2 hi))
  rintro _ M2 ⟨rfl, h⟩
  exact ⟨rfl, hI.fT h⟩
theorem kM_alike {M : pM} {T : Nat → Int} {L : Nat} {B : Nat → bS} {k : Nat} {lf lg : Nat → Int} {N pu n : Nat} {W : Nat → Int} {sn : Nat} {ho : Nat → Nat} {hw : Nat → Int} {a b : Int} (hS : sOk M.1) (hA : AI T L B k lf N ho) (hI : MI M T L B k lf lg N pu n W sn ho hw) (ha : inR a) (hb : inR b) : Ct 340 0 0 yX12_alike [.ref 317, .int (iI a), .int (iI b)] M (fun v M2 => v = some (.int (iI (if ldP lf a ∧ ldP lf b then (tlR (B (1 + a.toNat)) (B (1 + b.toNat)) a.toNat b.toNat).1 else -1))) ∧ MI M2 T L B k lf lg N pu n W sn ho hw ∧ fM M M2) := by
  refine Ct_le (d := 5) (by decide) (Ct_mono ?_ (c_X12_alike (d := 0) (lf := lf) hS ha hb (fun s hs => ⟨hI.2.2.1 s hs, hA.2.2.1 s hs⟩) hI.2.1.1 (fun s hs hl => hA.2.2.2.1 s hs hl)))
  rintro _ M2 (⟨c, rfl, h⟩ | ⟨c, rfl, h⟩)
  · rw [if_neg c]; exact ⟨rfl, hI.zz h⟩
  · rw [if_pos c]; exact ⟨rfl, hI.fT h⟩
theorem kM_telling {M : pM} {T : Nat → Int} {L : Nat} {B : Nat → bS} {k : Nat} {lf lg : Nat → Int} {N pu n : Nat} {W : Nat → Int} {sn : Nat} {ho : Nat → Nat} {hw : Nat → Int} {a b i : Int} (hS : sOk M.1) (hA : AI T L B k lf N ho) (hI : MI M T L B k lf lg N pu n W sn ho hw) (ha : inR a) (hb : inR b) (hi : inR i) : Ct 340 0 0 yX12_telling [.ref 317, .int (iI a), .int (iI b), .int (iI i)] M (fun v M2 => v = some (.int (iI (if ldP lf a ∧ ldP lf b then (if 0 ≤ i ∧ i < (tlR (B (1 + a.toNat)) (B (1 + b.toNat)) a.toNat b.toNat).1 then (tlR (B (1 + a.toNat)) (B (1 + b.toNat)) a.toNat b.toNat).2 i.toNat else -1) else -1))) ∧ MI M2 T L B k lf lg N pu n W sn ho hw ∧ fM M M2) := by
  refine Ct_le (d := 5) (by decide) (Ct_mono ?_ (c_X12_telling (d := 0) (lf := lf) hS ha hb (fun s hs => ⟨hI.2.2.1 s hs, hA.2.2.1 s hs⟩) hI.2.1.1 (fun s hs hl => hA.2.2.2.1 s hs hl) hi))
  rintro _ M2 (⟨c, rfl, h⟩ | ⟨c, rfl, h⟩)
  · rw [if_neg c]; exact ⟨rfl, hI.zz h⟩
  · rw [if_pos c]; exact ⟨rfl, hI.fT h⟩
theorem kM_suspect {M : pM} {T : Nat → Int} {L : Nat} {B : Nat → bS} {k : Nat} {lf lg : Nat → Int} {N pu n : Nat} {W : Nat → Int} {sn : Nat} {ho : Nat → Nat} {hw : Nat → Int} {z i : Int} (hS : sOk M.1) (hA : AI T L B k lf N ho) (hI : MI M T L B k lf lg N pu n W sn ho hw) (hz : inR z) (hi : inR i) : Ct 340 0 0 yX12_suspect [.ref 317, .int (iI z), .int (iI i)] M (fun v M2 => v = some (.int (iI (if ldP lf z then (if 0 ≤ i ∧ i < (((sS9 (B (1 + z.toNat)) ho hw sn).1 : Nat) : Int) then ((sS9 (B (1 + z.toNat)) ho hw sn).2 i.toNat).1 else -1) else -1))) ∧ MI M2 T L B k lf lg N pu n W sn ho hw ∧ fM M M2) := by
  refine Ct_le (d := 6) (by decide) (Ct_mono ?_ (c_X12_suspect (d := 0) (lf := lf) hS hz (fun s hs => ⟨hI.2.2.1 s hs, hA.2.2.1 s hs⟩) hI.2.1.1 (fun s hs hl => hA.2.2.2.1 s hs hl) hI.2.2.2.2.2 hA.2.2.2.2 hi))
  rintro _ M2 (⟨c, rfl, h⟩ | ⟨c, rfl, M1, h1, h2⟩)
  · rw [if_neg c]; exact ⟨rfl, hI.zz h⟩
  · rw [if_pos c]; exact ⟨rfl, hI.fV h1 h2⟩
theorem kM_test {M : pM} {T : Nat → Int} {L : Nat} {B : Nat → bS} {k : Nat} {lf lg : Nat → Int} {N pu n : Nat} {W : Nat → Int} {sn : Nat} {ho : Nat → Nat} {hw : Nat → Int} {z : Int} (hS : sOk M.1) (hA : AI T L B k lf N ho) (hI : MI M T L B k lf lg N pu n W sn ho hw) (hz : inR z) : Ct 340 0 0 yX12_test [.ref 317, .int (iI z)] M (fun v M2 => v = some (.int (iI (if ldP lf z then sBst (B (1 + z.toNat)).1 (sS9 (B (1 + z.toNat)) ho hw sn) else -1))) ∧ MI M2 T L B k lf lg N pu n W sn ho hw ∧ fM M M2) := by
  refine Ct_le (d := 6) (by decide) (Ct_mono ?_ (c_X12_test (d := 0) (lf := lf) hS hz (fun s hs => ⟨hI.2.2.1 s hs, hA.2.2.1 s hs⟩) hI.2.1.1 (fun s hs hl => hA.2.2.2.1 s hs hl) hI.2.2.2.2.2 hA.2.2.2.2))
  rintro _ M2 (⟨c, rfl, h⟩ | ⟨c, rfl, M1, h1, h2⟩)
  · rw [if_neg c]; exact ⟨rfl, hI.zz h⟩
  · rw [if_pos c]; exact ⟨rfl, hI.fV h1 h2⟩
