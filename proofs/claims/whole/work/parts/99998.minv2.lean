/-! the model's calls that change it -/
theorem MB.s {M : pM} {B : Nat → bS} (h : MB M B) : MB M (va_up B 0 (B 0)) := h.eq (fun i _ => by
  by_cases e : i = 0
  · rw [e]; exact up_at.symm
  · exact (up_ne e).symm)
def rdV (X : bS) (z w y : Int) : Prop := (((0 ≤ z ∧ z < 4) ∧ 0 ≤ w ∧ w ≤ 1) ∧ ∃ a b, rdA X z.toNat a b ∧ y = if w = 0 then a else b) ∨ (¬ ((0 ≤ z ∧ z < 4) ∧ 0 ≤ w ∧ w ≤ 1) ∧ y = -1)
theorem kM_round {M : pM} {T : Nat → Int} {L : Nat} {B : Nat → bS} {k : Nat} {lf lg : Nat → Int} {N pu n : Nat} {W : Nat → Int} {sn : Nat} {ho : Nat → Nat} {hw : Nat → Int} {z w : Int} (hS : sOk M.1) (hA : AI T L B k lf N ho) (hI : MI M T L B k lf lg N pu n W sn ho hw) (hz : inR z) (hw2 : inR w) : Ct 340 0 0 yX12_round [.ref 317, .int (iI z), .int (iI w)] M (fun v M2 => ∃ y, v = some (.int (iI y)) ∧ rdV (B 0) z w y ∧ MI M2 T L B k lf lg N pu n W sn ho hw ∧ fM M M2) := by
  by_cases c : (0 ≤ z ∧ z < 4) ∧ 0 ≤ w ∧ w ≤ 1
  · obtain ⟨h, rfl⟩ : ∃ h : Nat, z = (h : Int) := ⟨z.toNat, by omega⟩
    refine Ct_le (d := 5) (by decide) (Ct_mono ?_ (c_X12_roundY (d := 0) hS (by omega) c.2 hI.2.1.1 hA.2.1.1.1 hA.2.1.1.2))
    rintro _ M2 ⟨a, b, hr, rfl, h⟩
    exact ⟨_, rfl, Or.inl ⟨c, a, b, by rw [Int.toNat_natCast]; exact hr, rfl⟩, hI.fT h⟩
  · refine Ct_le (d := 2) (by decide) (Ct_mono ?_ (c_X12_roundN (d := 0) hS c hz hw2))
    rintro _ M2 ⟨rfl, h⟩
    exact ⟨_, rfl, Or.inr ⟨c, rfl⟩, hI.zz h⟩
theorem kM_runN {M : pM} {T : Nat → Int} {L : Nat} {B : Nat → bS} {k : Nat} {lf lg : Nat → Int} {N pu n : Nat} {W : Nat → Int} {sn : Nat} {ho : Nat → Nat} {hw : Nat → Int} {z m : Int} (hS : sOk M.1) (hA : AI T L B k lf N ho) (hI : MI M T L B k lf lg N pu n W sn ho hw) (hz : inR z) (hm : inR m) (c : ¬ ((0 ≤ z ∧ z < 4) ∧ 1 ≤ m ∧ m ≤ 200)) : Ct 340 0 0 yX12_run [.ref 317, .int (iI z), .int (iI m)] M (fun v M2 => v = some (.int (iI (-1))) ∧ MI M2 T L B k lf lg N pu n W sn ho hw ∧ fM M M2) := by
  refine Ct_le (d := 2) (by decide) (Ct_mono ?_ (c_X12_runN (d := 0) hS c hz hm))
  rintro _ M2 ⟨rfl, h⟩
  exact ⟨rfl, hI.zz h⟩
theorem kM_runY {M : pM} {T : Nat → Int} {L : Nat} {B : Nat → bS} {k : Nat} {lf lg : Nat → Int} {N pu n : Nat} {W : Nat → Int} {sn : Nat} {ho : Nat → Nat} {hw : Nat → Int} {h m : Nat} (hS : sOk M.1) (hA : AI T L B k lf N ho) (hI : MI M T L B k lf lg N pu n W sn ho hw) (hh : h < 4) (hm : 1 ≤ m ∧ m ≤ 200) : Ct 340 0 0 yX12_run [.ref 317, .int (iI ((h : Nat) : Int)), .int (iI ((m : Nat) : Int))] M (fun v M2 => v = some (.int (iI ((rnL m h (B 0, lg, N)).1))) ∧ MI M2 T L (va_up B 0 (rnL m h (B 0, lg, N)).2.1) k lf ((rnL m h (B 0, lg, N)).2.2.1) ((rnL m h (B 0, lg, N)).2.2.2) pu n W sn ho hw ∧ fM M M2) := by
  refine Ct_le (d := 4) (by decide) (Ct_mono ?_ (c_X12_runY (d := 0) (B := B) (x := (B 0, lg, N)) hS hI.2.1.1.s hA.2.1.1 hh hI.2.2.2.1 hA.1.2.2.2 hm))
  rintro _ M2 ⟨rfl, h1, h2, h3, h4⟩
  obtain ⟨⟨a1, a2, a3⟩, ⟨b1, b2, b3⟩, c1, d1, d2, d3⟩ := hI
  refine ⟨rfl, ⟨⟨a1.of (h3.1.j (by decide)), by rw [h3.2 2 (by decide) (by decide) (by decide)]; exact a2, by rw [h3.1.i (by decide)]; exact a3⟩, ⟨h1, by rw [h3.2 28 (by decide) (by decide) (by decide)]; exact b2, by rw [h3.2 27 (by decide) (by decide) (by decide)]; exact b3⟩, fun s hs => by rw [h3.1.i (by decide)]; exact c1 s hs, h2.x (by rw [up_at]), d2.of (h3.2 45 (by decide) (by decide) (by decide)) (h3.1.i (by decide)) (h3.1.i (by decide)), d3.of (h3.2 48 (by decide) (by decide) (by decide)) (h3.1.i (by decide)) (h3.1.i (by decide))⟩, fM.of h3.1 (by decide)⟩
theorem kM_feed {M : pM} {T : Nat → Int} {L : Nat} {B : Nat → bS} {k : Nat} {lf lg : Nat → Int} {N pu n : Nat} {W : Nat → Int} {sn : Nat} {ho : Nat → Nat} {hw : Nat → Int} {a b c : Int64} (hS : sOk M.1) (hA : AI T L B k lf N ho) (hI : MI M T L B k lf lg N pu n W sn ho hw)  : Ct 340 0 0 yX12_feed [.ref 317, .long a, .long b, .long c] M (fun v M2 => v = some (.int (iI ((((fdN a b c (T, L)).2 : Nat) : Int)))) ∧ MI M2 ((fdN a b c (T, L)).1) ((fdN a b c (T, L)).2) B k lf lg N pu n W sn ho hw ∧ fM M M2) := by
  refine Ct_le (d := 2) (by decide) (Ct_mono ?_ (c_X12_feed (d := 0) (a := a) (b := b) (c := c) hS hI.1.2.1 hA.1.1))
  rintro v M2 ⟨rfl, h1, h2, h3, h4⟩
  obtain ⟨⟨a1, a2, a3⟩, ⟨b1, b2, b3⟩, c1, d1, d2, d3⟩ := hI
  rw [a3] at h2 h3 ⊢
  refine ⟨rfl, ⟨⟨a1.of (h1.j (by decide)), h3, h2⟩, ⟨b1.ofl h1 (by decide), by rw [h4 28 (by decide) (by decide)]; exact b2, by rw [h4 27 (by decide) (by decide)]; exact b3⟩, fun s hs => by rw [h1.i (by decide)]; exact c1 s hs, d1.of (h4 32 (by decide) (by decide)) (h4 31 (by decide) (by decide)) (h1.i (by decide)), d2.of (h4 45 (by decide) (by decide)) (h1.i (by decide)) (h1.i (by decide)), d3.of (h4 48 (by decide) (by decide)) (h1.i (by decide)) (h1.i (by decide))⟩, fM.of h1 (by decide)⟩
theorem kM_takeBackN {M : pM} {T : Nat → Int} {L : Nat} {B : Nat → bS} {k : Nat} {lf lg : Nat → Int} {N pu n : Nat} {W : Nat → Int} {sn : Nat} {ho : Nat → Nat} {hw : Nat → Int}  (hS : sOk M.1) (hA : AI T L B k lf N ho) (hI : MI M T L B k lf lg N pu n W sn ho hw) (h0 : k = 0) : Ct 340 0 0 yX12_takeBack [.ref 317] M (fun v M2 => v = some (.int (iI (0))) ∧ MI M2 T L B k lf lg N pu n W sn ho hw ∧ fM M M2) := by
  refine Ct_le (d := 2) (by decide) (Ct_mono ?_ (c_X12_takeBack (d := 0) hS hI.2.1.2.1 hA.1.2.2.1 hI.2.1.1))
  rintro _ M2 ⟨rfl, ⟨h1, h9⟩, h2⟩
  rw [if_pos h0] at h2 ⊢
  refine ⟨rfl, hI.ke h2.1 (h1.1.j (by decide)) (fun q hq => ?_) (fun a ha => ?_), fM.of h1.1 (by decide)⟩
  · by_cases e : q = 28
    · rw [e, h2.2, hI.2.1.2.1]
    · exact h1.2.1 q (by revert hq; simp only [List.mem_cons, List.not_mem_nil, or_false]; omega) e
  · by_cases e : a = 343
    · rw [e]; exact h9
    · exact h1.1.i (by revert ha; simp only [List.mem_cons, List.not_mem_nil, or_false]; omega)
theorem kM_takeBackY {M : pM} {T : Nat → Int} {L : Nat} {B : Nat → bS} {k : Nat} {lf lg : Nat → Int} {N pu n : Nat} {W : Nat → Int} {sn : Nat} {ho : Nat → Nat} {hw : Nat → Int}  (hS : sOk M.1) (hA : AI T L B k lf N ho) (hI : MI M T L B k lf lg N pu n W sn ho hw) (h0 : ¬ k = 0) : Ct 340 0 0 yX12_takeBack [.ref 317] M (fun v M2 => v = some (.int (iI (1))) ∧ MI M2 T L (va_up B 0 (B (5 + (k - 1)))) (k - 1) lf lg N pu n W sn ho hw ∧ fM M M2) := by
  refine Ct_le (d := 2) (by decide) (Ct_mono ?_ (c_X12_takeBack (d := 0) hS hI.2.1.2.1 hA.1.2.2.1 hI.2.1.1))
  rintro _ M2 ⟨rfl, ⟨h1, h9⟩, h2⟩
  rw [if_neg h0] at h2 ⊢
  obtain ⟨h2, h3⟩ := h2
  obtain ⟨⟨a1, a2, a3⟩, ⟨b1, b2, b3⟩, c1, d1, d2, d3⟩ := hI
  refine ⟨rfl, ⟨⟨a1.of (h1.1.j (by decide)), by rw [h1.2.1 2 (by decide) (by decide)]; exact a2, by rw [h1.1.i (by decide)]; exact a3⟩, ⟨h2, h3, by rw [h1.2.1 27 (by decide) (by decide)]; exact b3⟩, fun s hs => by rw [h9]; exact c1 s hs, (d1.of (h1.2.1 32 (by decide) (by decide)) (h1.2.1 31 (by decide) (by decide)) (h1.1.i (by decide))).x rfl, d2.of (h1.2.1 45 (by decide) (by decide)) (h1.1.i (by decide)) (h1.1.i (by decide)), d3.of (h1.2.1 48 (by decide) (by decide)) (h1.1.i (by decide)) (h1.1.i (by decide))⟩, fM.of h1.1 (by decide)⟩
theorem kM_shelfN {M : pM} {T : Nat → Int} {L : Nat} {B : Nat → bS} {k : Nat} {lf lg : Nat → Int} {N pu n : Nat} {W : Nat → Int} {sn : Nat} {ho : Nat → Nat} {hw : Nat → Int} {z y : Int} (hS : sOk M.1) (hA : AI T L B k lf N ho) (hI : MI M T L B k lf lg N pu n W sn ho hw) (hz : inR z) (c : ¬ (0 ≤ z ∧ z < 4)) : Ct 340 0 0 yX12_shelf [.ref 317, .int (iI z), .int (iI y)] M (fun v M2 => v = some (.int (iI (0))) ∧ MI M2 T L B k lf lg N pu n W sn ho hw ∧ fM M M2) := by
  refine Ct_le (d := 2) (by decide) (Ct_mono ?_ (c_X12_shelfN (d := 0) hS c hz))
  rintro _ M2 ⟨rfl, h⟩
  exact ⟨rfl, hI.zz h⟩
theorem kM_shelfE {M : pM} {T : Nat → Int} {L : Nat} {B : Nat → bS} {k : Nat} {lf lg : Nat → Int} {N pu n : Nat} {W : Nat → Int} {sn : Nat} {ho : Nat → Nat} {hw : Nat → Int} {s : Nat} (hS : sOk M.1) (hA : AI T L B k lf N ho) (hI : MI M T L B k lf lg N pu n W sn ho hw) (hs : s < 4) (c : lf s = 0) : Ct 340 0 0 yX12_shelf [.ref 317, .int (iI ((s : Nat) : Int)), .int (iI 1)] M (fun v M2 => v = some (.int (iI (0))) ∧ MI M2 T L B k lf lg N pu n W sn ho hw ∧ fM M M2) := by
  refine Ct_le (d := 2) (by decide) (Ct_mono ?_ (c_X12_shelfE (d := 0) (B := B) hS hs (by rw [hI.2.2.1 s hs]; exact c)))
  rintro _ M2 ⟨rfl, h⟩
  exact ⟨rfl, hI.zz h⟩
theorem kM_shelfB {M : pM} {T : Nat → Int} {L : Nat} {B : Nat → bS} {k : Nat} {lf lg : Nat → Int} {N pu n : Nat} {W : Nat → Int} {sn : Nat} {ho : Nat → Nat} {hw : Nat → Int} {s : Nat} (hS : sOk M.1) (hA : AI T L B k lf N ho) (hI : MI M T L B k lf lg N pu n W sn ho hw) (hs : s < 4) (c : lf s = 1) : Ct 340 0 0 yX12_shelf [.ref 317, .int (iI ((s : Nat) : Int)), .int (iI 1)] M (fun v M2 => v = some (.int (iI (1))) ∧ MI M2 T L (va_up B 0 (B (1 + s))) (0) lf lg N pu n W sn ho hw ∧ fM M M2) := by
  refine Ct_le (d := 2) (by decide) (Ct_mono ?_ (c_X12_shelfB (d := 0) (B := B) hS hs (by rw [hI.2.2.1 s hs]; exact c) hI.2.1.1))
  rintro _ M2 ⟨rfl, h1, h2, h3, h9⟩
  obtain ⟨⟨a1, a2, a3⟩, ⟨b1, b2, b3⟩, c1, d1, d2, d3⟩ := hI
  refine ⟨rfl, ⟨⟨a1.of (h1.1.j (by decide)), by rw [h1.2.1 2 (by decide) (by decide)]; exact a2, by rw [h1.1.i (by decide)]; exact a3⟩, ⟨h2, by rw [h3]; rfl, by rw [h1.2.1 27 (by decide) (by decide)]; exact b3⟩, fun s hs => by rw [h9]; exact c1 s hs, (d1.of (h1.2.1 32 (by decide) (by decide)) (h1.2.1 31 (by decide) (by decide)) (h1.1.i (by decide))).x rfl, d2.of (h1.2.1 45 (by decide) (by decide)) (h1.1.i (by decide)) (h1.1.i (by decide)), d3.of (h1.2.1 48 (by decide) (by decide)) (h1.1.i (by decide)) (h1.1.i (by decide))⟩, fM.of h1.1 (by decide)⟩
theorem kM_shelfP {M : pM} {T : Nat → Int} {L : Nat} {B : Nat → bS} {k : Nat} {lf lg : Nat → Int} {N pu n : Nat} {W : Nat → Int} {sn : Nat} {ho : Nat → Nat} {hw : Nat → Int} {s : Nat} (hS : sOk M.1) (hA : AI T L B k lf N ho) (hI : MI M T L B k lf lg N pu n W sn ho hw) (hs : s < 4) : Ct 340 0 0 yX12_shelf [.ref 317, .int (iI ((s : Nat) : Int)), .int (iI 0)] M (fun v M2 => v = some (.int (iI (1))) ∧ MI M2 T L (va_up B (1 + s) (B 0)) k (va_up lf s 1) lg N pu n W sn ho hw ∧ fM M M2) := by
  refine Ct_le (d := 2) (by decide) (Ct_mono ?_ (c_X12_shelfP (d := 0) (B := B) hS hs hI.2.1.1))
  rintro _ M2 ⟨rfl, h1, h2, h3, h9⟩
  obtain ⟨⟨a1, a2, a3⟩, ⟨b1, b2, b3⟩, c1, d1, d2, d3⟩ := hI
  refine ⟨rfl, ⟨⟨a1.of (h1.1.j (by decide)), by rw [h1.2.1 2 (by decide) (by decide)]; exact a2, by rw [h1.1.i (by decide)]; exact a3⟩, ⟨h2, by rw [h3]; exact b2, by rw [h1.2.1 27 (by decide) (by decide)]; exact b3⟩, fun t ht => by
      rw [h9]
      by_cases e : t = s
      · rw [e, up_at, up_at]
      · rw [up_ne e, up_ne e]; exact c1 t ht, (d1.of (h1.2.1 32 (by decide) (by decide)) (h1.2.1 31 (by decide) (by decide)) (h1.1.i (by decide))).x rfl, d2.of (h1.2.1 45 (by decide) (by decide)) (h1.1.i (by decide)) (h1.1.i (by decide)), d3.of (h1.2.1 48 (by decide) (by decide)) (h1.1.i (by decide)) (h1.1.i (by decide))⟩, fM.of h1.1 (by decide)⟩
theorem kM_sightF {M : pM} {T : Nat → Int} {L : Nat} {B : Nat → bS} {k : Nat} {lf lg : Nat → Int} {N pu n : Nat} {W : Nat → Int} {sn : Nat} {ho : Nat → Nat} {hw : Nat → Int} {z w : Int} (hS : sOk M.1) (hA : AI T L B k lf N ho) (hI : MI M T L B k lf lg N pu n W sn ho hw) (hz : inR z) (hw2 : inR w) (c : z = -1) : Ct 340 0 0 yX12_sight [.ref 317, .int (iI z), .int (iI w)] M (fun v M2 => v = some (.int (iI (0))) ∧ MI M2 T L B k lf lg N pu n W (0) ho hw ∧ fM M M2) := by
  refine Ct_le (d := 2) (by decide) (Ct_mono ?_ (c_X12_sight (d := 0) (n := sn) hS hz hw2 hI.2.2.2.2.2.1 hI.2.2.2.2.2.2.1))
  rintro _ M2 (⟨c1, rfl, h⟩ | ⟨c1, -⟩ | ⟨c1, -⟩)
  · have h0 := hI.z
    obtain ⟨⟨a1, a2, a3⟩, ⟨b1, b2, b3⟩, c2, d1, d2, d3⟩ := h0
    rw [h]
    exact ⟨rfl, ⟨⟨a1, by rw [pI_nk (by decide)]; exact a2, a3⟩, ⟨b1.z, by rw [pI_nk (by decide)]; exact b2, by rw [pI_nk (by decide)]; exact b3⟩, fun s hs => by rw [pI_ne (by decide)]; exact c2 s hs, d1.of (pI_nk (by decide)) (pI_nk (by decide)) (pI_ne (by decide)), d2.of (pI_nk (by decide)) (pI_ne (by decide)) (pI_ne (by decide)), ⟨pI_at, by omega, fun i hi => absurd hi (by omega)⟩⟩, fM.z.tr fM.z⟩
  · exact absurd c c1
  · exact absurd c c1
theorem kM_sightN {M : pM} {T : Nat → Int} {L : Nat} {B : Nat → bS} {k : Nat} {lf lg : Nat → Int} {N pu n : Nat} {W : Nat → Int} {sn : Nat} {ho : Nat → Nat} {hw : Nat → Int} {z w : Int} (hS : sOk M.1) (hA : AI T L B k lf N ho) (hI : MI M T L B k lf lg N pu n W sn ho hw) (hz : inR z) (hw2 : inR w) (c : ¬ z = -1) (c2 : ¬ sgk sn z w) : Ct 340 0 0 yX12_sight [.ref 317, .int (iI z), .int (iI w)] M (fun v M2 => v = some (.int (iI (-1))) ∧ MI M2 T L B k lf lg N pu n W sn ho hw ∧ fM M M2) := by
  refine Ct_le (d := 2) (by decide) (Ct_mono ?_ (c_X12_sight (d := 0) (n := sn) hS hz hw2 hI.2.2.2.2.2.1 hI.2.2.2.2.2.2.1))
  rintro _ M2 (⟨c1, -⟩ | ⟨-, -, rfl, h⟩ | ⟨-, c3, -⟩)
  · exact absurd c1 c
  · exact ⟨rfl, hI.zz h⟩
  · exact absurd c3 c2
theorem kM_sightY {M : pM} {T : Nat → Int} {L : Nat} {B : Nat → bS} {k : Nat} {lf lg : Nat → Int} {N pu n : Nat} {W : Nat → Int} {sn : Nat} {ho : Nat → Nat} {hw : Nat → Int} {z w : Int} (hS : sOk M.1) (hA : AI T L B k lf N ho) (hI : MI M T L B k lf lg N pu n W sn ho hw) (hz : inR z) (hw2 : inR w) (c : ¬ z = -1) (c2 : sgk sn z w) : Ct 340 0 0 yX12_sight [.ref 317, .int (iI z), .int (iI w)] M (fun v M2 => v = some (.int (iI (((sn : Nat) : Int)))) ∧ MI M2 T L B k lf lg N pu n W (sn + 1) (va_up ho sn z.toNat) (va_up hw sn w) ∧ fM M M2) := by
  refine Ct_le (d := 2) (by decide) (Ct_mono ?_ (c_X12_sight (d := 0) (n := sn) hS hz hw2 hI.2.2.2.2.2.1 hI.2.2.2.2.2.2.1))
  rintro _ M2 (⟨c1, -⟩ | ⟨-, c3, -⟩ | ⟨-, -, rfl, h⟩)
  · exact absurd c1 c
  · exact absurd c2 c3
  · have h9 := hI.2.2.2.2.2.ad c2
    obtain ⟨⟨a1, a2, a3⟩, ⟨b1, b2, b3⟩, c4, d1, d2, d3⟩ := hI.z
    rw [h]
    have hf : fr [317, 347, 348] (pI M 317 0 0) (sgM9 M sn z w) := ((fr.rf.I (by decide)).I (by decide)).I (by decide)
    have h7 : ∀ q, q ≠ 48 → (sgM9 M sn z w).2.1 317 q = (pI M 317 0 0).2.1 317 q := fun q hq => by
      unfold sgM9
      rw [pI_nk hq, pI_ne (by decide), pI_ne (by decide)]
    exact ⟨rfl, ⟨⟨a1.of (hf.j (by decide)), by rw [h7 2 (by decide)]; exact a2, by rw [hf.i (by decide)]; exact a3⟩, ⟨b1.ofl hf (by decide), by rw [h7 28 (by decide)]; exact b2, by rw [h7 27 (by decide)]; exact b3⟩, fun s hs => by rw [hf.i (by decide)]; exact c4 s hs, d1.of (h7 32 (by decide)) (h7 31 (by decide)) (hf.i (by decide)), d2.of (h7 45 (by decide)) (hf.i (by decide)) (hf.i (by decide)), h9⟩, fM.z.tr (fM.of hf (by decide))⟩
theorem kM_wishN {M : pM} {T : Nat → Int} {L : Nat} {B : Nat → bS} {k : Nat} {lf lg : Nat → Int} {N pu n : Nat} {W : Nat → Int} {sn : Nat} {ho : Nat → Nat} {hw : Nat → Int} {x y w : Int} (hS : sOk M.1) (hA : AI T L B k lf N ho) (hI : MI M T L B k lf lg N pu n W sn ho hw) (hx : inR x) (hy : inR y) (hw2 : inR w) (c : ¬ wsK x y w) : Ct 340 0 0 yX12_wish [.ref 317, .int (iI x), .int (iI y), .int (iI w)] M (fun v M2 => v = some (.int (iI (0))) ∧ MI M2 T L B k lf lg N pu n W sn ho hw ∧ fM M M2) := by
  refine Ct_le (d := 2) (by decide) (Ct_mono ?_ (c_X12_wish (d := 0) (n := n) (W := W) (pc := (B 0).1.1.1) hS hI.2.2.2.2.1 hx hy hw2 (fun q hq => ⟨by have h9 := ((hI.2.1.1 0 (by decide)).1 q hq).1; rw [show 156 * 0 + q = q by omega] at h9; exact h9, bK_pc hA.2.1.1.2 q hq⟩)))
  rintro _ M2 (⟨-, rfl, h⟩ | ⟨c2, -⟩)
  · exact ⟨rfl, hI.zz h⟩
  · exact absurd c2 c
theorem kM_wishY {M : pM} {T : Nat → Int} {L : Nat} {B : Nat → bS} {k : Nat} {lf lg : Nat → Int} {N pu n : Nat} {W : Nat → Int} {sn : Nat} {ho : Nat → Nat} {hw : Nat → Int} {x y w : Int} (hS : sOk M.1) (hA : AI T L B k lf N ho) (hI : MI M T L B k lf lg N pu n W sn ho hw) (hx : inR x) (hy : inR y) (hw2 : inR w) (c : wsK x y w) : Ct 340 0 0 yX12_wish [.ref 317, .int (iI x), .int (iI y), .int (iI w)] M (fun v M2 => v = some (.int (iI ((wsF ((B 0).1.1.1 (13 * y + x).toNat) n W (13 * y + x).toNat w).1))) ∧ MI M2 T L B k lf lg N pu ((wsF ((B 0).1.1.1 (13 * y + x).toNat) n W (13 * y + x).toNat w).2.1) ((wsF ((B 0).1.1.1 (13 * y + x).toNat) n W (13 * y + x).toNat w).2.2) sn ho hw ∧ fM M M2) := by
  refine Ct_le (d := 2) (by decide) (Ct_mono ?_ (c_X12_wish (d := 0) (n := n) (W := W) (pc := (B 0).1.1.1) hS hI.2.2.2.2.1 hx hy hw2 (fun q hq => ⟨by have h9 := ((hI.2.1.1 0 (by decide)).1 q hq).1; rw [show 156 * 0 + q = q by omega] at h9; exact h9, bK_pc hA.2.1.1.2 q hq⟩)))
  rintro _ M2 (⟨c2, -⟩ | ⟨-, rfl, h2, h1⟩)
  · exact absurd c c2
  · obtain ⟨⟨a1, a2, a3⟩, ⟨b1, b2, b3⟩, c1, d1, d2, d3⟩ := hI
    refine ⟨rfl, ⟨⟨a1.of (h1.1.j (by decide)), by rw [h1.2.1 2 (by decide) (by decide)]; exact a2, by rw [h1.1.i (by decide)]; exact a3⟩, ⟨b1.ofl h1.1 (by decide), by rw [h1.2.1 28 (by decide) (by decide)]; exact b2, by rw [h1.2.1 27 (by decide) (by decide)]; exact b3⟩, fun s hs => by rw [h1.1.i (by decide)]; exact c1 s hs, d1.of (h1.2.1 32 (by decide) (by decide)) (h1.2.1 31 (by decide) (by decide)) (h1.1.i (by decide)), h2, d3.of (h1.2.1 48 (by decide) (by decide)) (h1.1.i (by decide)) (h1.1.i (by decide))⟩, fM.of h1.1 (by decide)⟩
theorem kM_drawN {M : pM} {T : Nat → Int} {L : Nat} {B : Nat → bS} {k : Nat} {lf lg : Nat → Int} {N pu n : Nat} {W : Nat → Int} {sn : Nat} {ho : Nat → Nat} {hw : Nat → Int}  (hS : sOk M.1) (hA : AI T L B k lf N ho) (hI : MI M T L B k lf lg N pu n W sn ho hw) (c : ¬ dwV T L (B 0) = 0) : Ct 340 0 0 yX12_draw [.ref 317] M (fun v M2 => ∃ y, v = some (.int (iI y)) ∧ y = dwV T L (B 0) ∧ fM M M2 ∧ ∃ B2, (∀ i, i < 25 → B2 i = B i) ∧ MI M2 T (0) (B2) k lf lg N pu n W sn ho hw) := by
  refine Ct_le (d := 332) (by decide) (Ct_mono ?_ (c_X12_draw (d := 0) (L := L) (k := k) (s := T) (B := B) hS hI.1.1 hA.1.1 hI.1.2.1 (fun j hj => ⟨by rw [hI.1.2.2], hA.1.2.1 j hj⟩) hI.2.1.1 hA.2.1.1.1 hA.2.1.1.2 hI.2.1.2.1 hA.1.2.2.1))
  rintro _ M2 ⟨rfl, h1, h2, h3, -⟩
  obtain ⟨⟨a1, a2, a3⟩, ⟨b1, b2, b3⟩, c1, d1, d2, d3⟩ := hI
  refine ⟨_, rfl, rfl, fM.of h1.1 (by decide), ?_⟩
  by_cases e : (rdF T L).1.2 = 0
  · have e2 : ¬ (dwR T L (B 0)).2.2.2.2 = 0 := fun e3 => c (by unfold dwV; rw [if_pos e, e3]; rfl)
    obtain ⟨h4, h5, h6⟩ := h3 e e2
    exact ⟨va_up B 25 (B 0), fun i hi => up_ne (by omega), ⟨⟨a1.of (h1.1.j (by decide)), h1.2.2.2, by rw [h1.1.i (by decide)]; exact a3⟩, ⟨h4, by rw [h6]; exact b2, by rw [h5]; exact b3⟩, fun s hs => by rw [h1.1.i (by decide)]; exact c1 s hs, (d1.of (h1.2.1 32 (by decide)) (h1.2.1 31 (by decide)) (h1.1.i (by decide))).x rfl, d2.of (h1.2.1 45 (by decide)) (h1.1.i (by decide)) (h1.1.i (by decide)), d3.of (h1.2.1 48 (by decide)) (h1.1.i (by decide)) (h1.1.i (by decide))⟩⟩
  · obtain ⟨h4, h5, h6⟩ := h2 e
    exact ⟨B, fun _ _ => rfl, ⟨⟨a1.of (h1.1.j (by decide)), h1.2.2.2, by rw [h1.1.i (by decide)]; exact a3⟩, ⟨h4, by rw [h6]; exact b2, by rw [h5]; exact b3⟩, fun s hs => by rw [h1.1.i (by decide)]; exact c1 s hs, (d1.of (h1.2.1 32 (by decide)) (h1.2.1 31 (by decide)) (h1.1.i (by decide))).x rfl, d2.of (h1.2.1 45 (by decide)) (h1.1.i (by decide)) (h1.1.i (by decide)), d3.of (h1.2.1 48 (by decide)) (h1.1.i (by decide)) (h1.1.i (by decide))⟩⟩
theorem dwV_0 {T : Nat → Int} {L : Nat} {X : bS} (h : dwV T L X = 0) : (rdF T L).1.2 = 0 ∧ (dwR T L X).2.2.2.2 = 0 := by
  unfold dwV at h
  by_cases e : (rdF T L).1.2 = 0
  · rw [if_pos e] at h; exact ⟨e, by omega⟩
  · rw [if_neg e] at h; exact absurd h e
theorem kM_drawY {M : pM} {T : Nat → Int} {L : Nat} {B : Nat → bS} {k : Nat} {lf lg : Nat → Int} {N pu n : Nat} {W : Nat → Int} {sn : Nat} {ho : Nat → Nat} {hw : Nat → Int}  (hS : sOk M.1) (hA : AI T L B k lf N ho) (hI : MI M T L B k lf lg N pu n W sn ho hw) (c : dwV T L (B 0) = 0) : Ct 340 0 0 yX12_draw [.ref 317] M (fun v M2 => v = some (.int (iI (0))) ∧ MI M2 T (0) (keB k (va_up (va_up B 25 (B 0)) 0 ((dwR T L (B 0)).1, (dwR T L (B 0)).2.1))) (keN k) lf lg N ((dwR T L (B 0)).2.2.2.1) n W sn ho hw ∧ fM M M2) := by
  refine Ct_le (d := 332) (by decide) (Ct_mono ?_ (c_X12_draw (d := 0) (L := L) (k := k) (s := T) (B := B) hS hI.1.1 hA.1.1 hI.1.2.1 (fun j hj => ⟨by rw [hI.1.2.2], hA.1.2.1 j hj⟩) hI.2.1.1 hA.2.1.1.1 hA.2.1.1.2 hI.2.1.2.1 hA.1.2.2.1))
  rintro _ M2 ⟨rfl, h1, -, -, h3⟩
  obtain ⟨⟨a1, a2, a3⟩, ⟨b1, b2, b3⟩, c1, d1, d2, d3⟩ := hI
  obtain ⟨e1, e2⟩ := dwV_0 c
  obtain ⟨h4, h5, h6⟩ := h3 e1 e2
  rw [c]
  exact ⟨rfl, ⟨⟨a1.of (h1.1.j (by decide)), h1.2.2.2, by rw [h1.1.i (by decide)]; exact a3⟩, ⟨h4, h6, h5⟩, fun s hs => by rw [h1.1.i (by decide)]; exact c1 s hs, (d1.of (h1.2.1 32 (by decide)) (h1.2.1 31 (by decide)) (h1.1.i (by decide))).x rfl, d2.of (h1.2.1 45 (by decide)) (h1.1.i (by decide)) (h1.1.i (by decide)), d3.of (h1.2.1 48 (by decide)) (h1.1.i (by decide)) (h1.1.i (by decide))⟩, fM.of h1.1 (by decide)⟩
