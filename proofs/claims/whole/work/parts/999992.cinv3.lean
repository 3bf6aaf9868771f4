/-! the class's sight, wish, draw -/
theorem kC_sightF {M : pM} {T : Nat → Int} {L : Nat} {B : Nat → bS} {k : Nat} {lf lg : Nat → Int} {N pu n : Nat} {W : Nat → Int} {sn : Nat} {ho : Nat → Nat} {hw : Nat → Int} {z w : Int} (hS : sOk M.1) (hA : AI T L B k lf N ho) (hI : CI M T L B k lf lg N pu n W sn ho hw) (hz : inR z) (hw2 : inR w) (c : z = -1) : Ct 340 0 0 yX11_sight [.ref 2, .int (iI z), .int (iI w)] M (fun v M2 => v = some (.int (iI (0))) ∧ CI M2 T L B k lf lg N pu n W (0) ho hw ∧ fC M M2) := by
  refine Ct_le (d := 2) (by decide) (Ct_mono ?_ (c_X11_sight (d := 0) (n := sn) hS hz hw2 hI.2.2.2.1.2.2.1 hI.2.2.2.1.2.2.2.1))
  rintro _ M2 (⟨c1, rfl, h⟩ | ⟨c1, -⟩ | ⟨c1, -⟩)
  · obtain ⟨⟨a1, a2, a3, a4⟩, ⟨⟨ix, b1⟩, ⟨f, b2⟩, b3⟩, ⟨s1, s2⟩, ⟨d1, d2, d3⟩, e1, e2, e3, e4⟩ := hI
    have hf : fr [270] M M2 := by rw [h]; exact (fr.rf.I (by decide)).I (by decide)
    have h8 : M2.2.1 270 8 = -1 := by rw [h, pI_at]
    have h6 : M2.2.1 270 6 = 0 := by rw [h, pI_nk (by decide), pI_at]
    have hcs : ∀ s, s < 4 → ∀ X iy, CF M (277 + 10 * s) X iy → CF M2 (277 + 10 * s) X iy := fun s hs X iy q => q.of (fun a h1 h2 => hf.2 a (by simp only [List.mem_cons, List.not_mem_nil, or_false]; omega))
    refine ⟨rfl, ⟨⟨a1.of (hf.j (by decide)), by rw [hf.i (by decide)]; exact a2, by rw [hf.i (by decide)]; exact a3, a4.of (hf.i (by decide)) (hf.i (by decide))⟩, ⟨⟨ix, b1.of (fun a h1 h2 => hf.2 a (by simp only [List.mem_cons, List.not_mem_nil, or_false]; omega))⟩, ⟨f, b2.of (hf.i (by decide)) (fun a h1 h2 => hf.2 a (by simp only [List.mem_cons, List.not_mem_nil, or_false]; omega))⟩, by rw [hf.i (by decide)]; exact b3⟩, ⟨fun s hs => by rw [hf.i (by decide)]; exact s1 s hs, fun s hs l1 => ?_⟩, ⟨d1.of (by rw [hf.i (by decide)]) (hf.i (by decide)), d2.of (by rw [hf.i (by decide)]) (hf.i (by decide)) (hf.i (by decide)), ⟨by rw [h6]; rfl, by omega, fun i hi => absurd hi (by omega)⟩⟩, e1.of (hf.i (by decide)), e2.of (hf.i (by decide)) (hf.i (by decide)) (fun _ _ => rfl), e3.of (by rw [hf.i (by decide)]) (by rw [hf.i (by decide)]) (hf.i (by decide)), Or.inl h8⟩, fC.of hf (by decide)⟩
    obtain ⟨iy, h9⟩ := s2 s hs l1
    exact ⟨iy, hcs s hs _ _ h9⟩
  · exact absurd c c1
  · exact absurd c c1
theorem kC_sightN {M : pM} {T : Nat → Int} {L : Nat} {B : Nat → bS} {k : Nat} {lf lg : Nat → Int} {N pu n : Nat} {W : Nat → Int} {sn : Nat} {ho : Nat → Nat} {hw : Nat → Int} {z w : Int} (hS : sOk M.1) (hA : AI T L B k lf N ho) (hI : CI M T L B k lf lg N pu n W sn ho hw) (hz : inR z) (hw2 : inR w) (c : ¬ z = -1) (c2 : ¬ sgk sn z w) : Ct 340 0 0 yX11_sight [.ref 2, .int (iI z), .int (iI w)] M (fun v M2 => v = some (.int (iI (-1))) ∧ CI M2 T L B k lf lg N pu n W sn ho hw ∧ fC M M2) := by
  refine Ct_le (d := 2) (by decide) (Ct_mono ?_ (c_X11_sight (d := 0) (n := sn) hS hz hw2 hI.2.2.2.1.2.2.1 hI.2.2.2.1.2.2.2.1))
  rintro _ M2 (⟨c1, -⟩ | ⟨-, -, rfl, h⟩ | ⟨-, c3, -⟩)
  · exact absurd c1 c
  · exact ⟨rfl, hI.rf h⟩
  · exact absurd c3 c2
theorem kC_sightY {M : pM} {T : Nat → Int} {L : Nat} {B : Nat → bS} {k : Nat} {lf lg : Nat → Int} {N pu n : Nat} {W : Nat → Int} {sn : Nat} {ho : Nat → Nat} {hw : Nat → Int} {z w : Int} (hS : sOk M.1) (hA : AI T L B k lf N ho) (hI : CI M T L B k lf lg N pu n W sn ho hw) (hz : inR z) (hw2 : inR w) (c : ¬ z = -1) (c2 : sgk sn z w) : Ct 340 0 0 yX11_sight [.ref 2, .int (iI z), .int (iI w)] M (fun v M2 => v = some (.int (iI (((sn : Nat) : Int)))) ∧ CI M2 T L B k lf lg N pu n W (sn + 1) (va_up ho sn z.toNat) (va_up hw sn w) ∧ fC M M2) := by
  refine Ct_le (d := 2) (by decide) (Ct_mono ?_ (c_X11_sight (d := 0) (n := sn) hS hz hw2 hI.2.2.2.1.2.2.1 hI.2.2.2.1.2.2.2.1))
  rintro _ M2 (⟨c1, -⟩ | ⟨-, c3, -⟩ | ⟨-, -, rfl, h⟩)
  · exact absurd c1 c
  · exact absurd c2 c3
  · have h7 := hI.2.2.2.1.2.2.ad c2
    rw [← h] at h7
    obtain ⟨⟨a1, a2, a3, a4⟩, ⟨⟨ix, b1⟩, ⟨f, b2⟩, b3⟩, ⟨s1, s2⟩, ⟨d1, d2, d3⟩, e1, e2, e3, e4⟩ := hI
    have hf : fr [270, 271, 272] M M2 := by rw [h]; exact (((fr.rf.I (by decide)).I (by decide)).I (by decide)).I (by decide)
    have h8 : M2.2.1 270 8 = -1 := by rw [h]; exact pI_at
    have hcs : ∀ s, s < 4 → ∀ X iy, CF M (277 + 10 * s) X iy → CF M2 (277 + 10 * s) X iy := fun s hs X iy q => q.of (fun a h1 h2 => hf.2 a (by simp only [List.mem_cons, List.not_mem_nil, or_false]; omega))
    refine ⟨rfl, ⟨⟨a1.of (hf.j (by decide)), by rw [hf.i (by decide)]; exact a2, by rw [hf.i (by decide)]; exact a3, a4.of (hf.i (by decide)) (hf.i (by decide))⟩, ⟨⟨ix, b1.of (fun a h1 h2 => hf.2 a (by simp only [List.mem_cons, List.not_mem_nil, or_false]; omega))⟩, ⟨f, b2.of (hf.i (by decide)) (fun a h1 h2 => hf.2 a (by simp only [List.mem_cons, List.not_mem_nil, or_false]; omega))⟩, by rw [hf.i (by decide)]; exact b3⟩, ⟨fun s hs => by rw [hf.i (by decide)]; exact s1 s hs, fun s hs l1 => ?_⟩, ⟨d1.of (by rw [hf.i (by decide)]) (hf.i (by decide)), d2.of (by rw [hf.i (by decide)]) (hf.i (by decide)) (hf.i (by decide)), h7⟩, e1.of (hf.i (by decide)), e2.of (hf.i (by decide)) (hf.i (by decide)) (fun _ _ => rfl), e3.of (by rw [hf.i (by decide)]) (by rw [hf.i (by decide)]) (hf.i (by decide)), Or.inl h8⟩, fC.of hf (by decide)⟩
    obtain ⟨iy, h9⟩ := s2 s hs l1
    exact ⟨iy, hcs s hs _ _ h9⟩
theorem kC_wishN {M : pM} {T : Nat → Int} {L : Nat} {B : Nat → bS} {k : Nat} {lf lg : Nat → Int} {N pu n : Nat} {W : Nat → Int} {sn : Nat} {ho : Nat → Nat} {hw : Nat → Int} {x y w : Int} (hS : sOk M.1) (hA : AI T L B k lf N ho) (hI : CI M T L B k lf lg N pu n W sn ho hw) (hx : inR x) (hy : inR y) (hw2 : inR w) (c : ¬ wsK x y w) : Ct 340 0 0 yX11_wish [.ref 2, .int (iI x), .int (iI y), .int (iI w)] M (fun v M2 => v = some (.int (iI (0))) ∧ CI M2 T L B k lf lg N pu n W sn ho hw ∧ fC M M2) := by
  obtain ⟨ix, hC⟩ := hI.2.1.1
  refine Ct_le (d := 3) (by decide) (Ct_mono ?_ (c_X11_wish (d := 0) (n := n) (W := W) (pc := (B 0).1.1.1) hS hI.2.2.2.1.2.1 hx hy hw2 (fun q hq => ⟨hC.1.1.1 q hq, bK_pc hA.2.1.1.2 q hq⟩)))
  rintro _ M2 (⟨-, rfl, h⟩ | ⟨c2, -⟩)
  · exact ⟨rfl, hI.rf h⟩
  · exact absurd c2 c
theorem kC_wishY {M : pM} {T : Nat → Int} {L : Nat} {B : Nat → bS} {k : Nat} {lf lg : Nat → Int} {N pu n : Nat} {W : Nat → Int} {sn : Nat} {ho : Nat → Nat} {hw : Nat → Int} {x y w : Int} (hS : sOk M.1) (hA : AI T L B k lf N ho) (hI : CI M T L B k lf lg N pu n W sn ho hw) (hx : inR x) (hy : inR y) (hw2 : inR w) (c : wsK x y w) : Ct 340 0 0 yX11_wish [.ref 2, .int (iI x), .int (iI y), .int (iI w)] M (fun v M2 => v = some (.int (iI ((wsF ((B 0).1.1.1 (13 * y + x).toNat) n W (13 * y + x).toNat w).1))) ∧ CI M2 T L B k lf lg N pu ((wsF ((B 0).1.1.1 (13 * y + x).toNat) n W (13 * y + x).toNat w).2.1) ((wsF ((B 0).1.1.1 (13 * y + x).toNat) n W (13 * y + x).toNat w).2.2) sn ho hw ∧ fC M M2) := by
  obtain ⟨ix, hC⟩ := hI.2.1.1
  refine Ct_le (d := 3) (by decide) (Ct_mono ?_ (c_X11_wish (d := 0) (n := n) (W := W) (pc := (B 0).1.1.1) hS hI.2.2.2.1.2.1 hx hy hw2 (fun q hq => ⟨hC.1.1.1 q hq, bK_pc hA.2.1.1.2 q hq⟩)))
  rintro _ M2 (⟨c2, -⟩ | ⟨-, rfl, h2, h1⟩)
  · exact absurd c c2
  · obtain ⟨r, hr⟩ : ∃ r, r = (wsF ((B 0).1.1.1 (13 * y + x).toNat) n W (13 * y + x).toNat w) := ⟨_, rfl⟩
    rw [← hr] at h1 h2 ⊢
    rcases h1 with ⟨e, ew⟩ | ⟨hf, g4, h4⟩
    · obtain ⟨⟨a1, a2, a3, a4⟩, ⟨⟨ix, b1⟩, ⟨f, b2⟩, b3⟩, ⟨s1, s2⟩, ⟨d1, d2, d3⟩, e1, e2, e3, e4⟩ := hI
      rw [e] at h2 ⊢
      exact ⟨rfl, ⟨⟨a1, a2, a3, a4⟩, ⟨⟨ix, b1⟩, ⟨f, b2⟩, b3⟩, ⟨s1, s2⟩, ⟨d1, h2, d3⟩, e1, e2, by rw [ew]; exact e3, e4⟩, fC.rf⟩
    · obtain ⟨⟨a1, a2, a3, a4⟩, ⟨⟨ix, b1⟩, ⟨f, b2⟩, b3⟩, ⟨s1, s2⟩, ⟨d1, d2, d3⟩, e1, e2, e3, e4⟩ := hI
      have hcs : ∀ s, s < 4 → ∀ X iy, CF M (277 + 10 * s) X iy → CF M2 (277 + 10 * s) X iy := fun s hs X iy q => q.of (fun a h1 h2 => hf.2 a (by simp only [List.mem_cons, List.not_mem_nil, or_false]; omega))
      refine ⟨rfl, ⟨⟨a1.of (hf.j (by decide)), by rw [hf.i (by decide)]; exact a2, by rw [hf.i (by decide)]; exact a3, a4.of (hf.i (by decide)) (hf.i (by decide))⟩, ⟨⟨ix, b1.of (fun a h1 h2 => hf.2 a (by simp only [List.mem_cons, List.not_mem_nil, or_false]; omega))⟩, ⟨f, b2.of (hf.i (by decide)) (fun a h1 h2 => hf.2 a (by simp only [List.mem_cons, List.not_mem_nil, or_false]; omega))⟩, by rw [hf.i (by decide)]; exact b3⟩, ⟨fun s hs => by rw [hf.i (by decide)]; exact s1 s hs, fun s hs l1 => ?_⟩, ⟨d1.of (by rw [hf.i (by decide)]) (hf.i (by decide)), h2, d3.of (by rw [hf.i (by decide)]) (hf.i (by decide)) (hf.i (by decide))⟩, e1.of (hf.i (by decide)), e2.of (hf.i (by decide)) (hf.i (by decide)) (fun _ _ => rfl), Or.inl h4, e4.of (by rw [hf.i (by decide)]) (by rw [hf.i (by decide)]) (hf.i (by decide)) (hf.j (by decide)) (hf.j (by decide)) (fun _ _ => rfl) hcs⟩, fC.of hf (by decide)⟩
      obtain ⟨iy, h9⟩ := s2 s hs l1
      exact ⟨iy, hcs s hs _ _ h9⟩
theorem kC_drawN {M : pM} {T : Nat → Int} {L : Nat} {B : Nat → bS} {k : Nat} {lf lg : Nat → Int} {N pu n : Nat} {W : Nat → Int} {sn : Nat} {ho : Nat → Nat} {hw : Nat → Int}  (hS : sOk M.1) (hA : AI T L B k lf N ho) (hI : CI M T L B k lf lg N pu n W sn ho hw) (c : ¬ dwV T L (B 0) = 0) : Ct 340 0 0 yX11_draw [.ref 2] M (fun v M2 => v = some (.int (iI (dwV T L (B 0)))) ∧ CI M2 T (0) B k lf lg N pu n W sn ho hw ∧ fC M M2) := by
  obtain ⟨ix, hC⟩ := hI.2.1.1
  obtain ⟨f0, hP⟩ := hI.2.1.2.1
  refine Ct_le (d := 8) (by decide) (Ct_mono ?_ (c_X11_draw (d := 0) (L := L) (k := k) (f := f0) (s := T) (B := B) hS hI.1.1 hA.1.1 hI.1.2.1 (fun j hj => ⟨by rw [hI.1.2.2.1], hA.1.2.1 j hj⟩) hC hA.2.1.1.1 hA.2.1.1.2 hP))
  rintro _ M2 ⟨rfl, hf, hn, -⟩
  obtain ⟨⟨a1, a2, a3, a4⟩, ⟨⟨ix, b1⟩, ⟨f, b2⟩, b3⟩, ⟨s1, s2⟩, ⟨d1, d2, d3⟩, e1, e2, e3, e4⟩ := hI
  obtain ⟨hc, hp, h15, h63, h66⟩ := hn c
  have g : ∀ a, a ≤ 2 ∨ a = 4 ∨ a = 5 ∨ (252 ≤ a ∧ a ≠ 263 ∧ a ≠ 266) → M2.2.1 a = M.2.1 a ∧ M2.2.2 a = M.2.2 a := hf.2.1
  have hcs : ∀ s, s < 4 → ∀ X iy, CF M (277 + 10 * s) X iy → CF M2 (277 + 10 * s) X iy := fun s hs X iy q => q.of (fun a h1 h2 => g a (by omega))
  have e63 : M2.2.1 263 = M.2.1 263 := funext (fun j => by
    by_cases u : j = 0
    · rw [u]; exact h63
    · exact hf.2.2.1 j u)
  refine ⟨rfl, ⟨⟨a1.of (g 4 (by omega)).2, hf.2.2.2.2.1, by rw [(g 5 (by omega)).1]; exact a3, a4.of (g 261 (by omega)).1 (g 262 (by omega)).1⟩, ⟨hc, ⟨f0, hp⟩, by rw [h15]; exact b3⟩, ⟨fun s hs => by rw [(g 253 (by omega)).1]; exact s1 s hs, fun s hs l1 => ?_⟩, ⟨(d1.of (by rw [(g 254 (by omega)).1]) (g 255 (by omega)).1).x rfl, d2.of (hf.2.2.2.1 3 (by decide)) (g 267 (by omega)).1 (g 268 (by omega)).1, d3.of (by rw [(g 270 (by omega)).1]) (g 271 (by omega)).1 (g 272 (by omega)).1⟩, e1.of e63, e2.of (g 264 (by omega)).1 (g 265 (by omega)).1 (fun _ _ => rfl), e3.of h66 (hf.2.2.2.1 5 (by decide)) (g 269 (by omega)).1, e4.of (by rw [(g 270 (by omega)).1]) (by rw [(g 270 (by omega)).1]) (g 273 (by omega)).1 (g 274 (by omega)).2 (g 275 (by omega)).2 (fun _ _ => rfl) hcs⟩, hf.1, fun a ha => g a (by omega)⟩
  obtain ⟨iy, h9⟩ := s2 s hs l1
  exact ⟨iy, hcs s hs _ _ h9⟩
theorem kC_drawY {M : pM} {T : Nat → Int} {L : Nat} {B : Nat → bS} {k : Nat} {lf lg : Nat → Int} {N pu n : Nat} {W : Nat → Int} {sn : Nat} {ho : Nat → Nat} {hw : Nat → Int}  (hS : sOk M.1) (hA : AI T L B k lf N ho) (hI : CI M T L B k lf lg N pu n W sn ho hw) (c : dwV T L (B 0) = 0) : Ct 340 0 0 yX11_draw [.ref 2] M (fun v M2 => v = some (.int (iI (0))) ∧ CI M2 T (0) (keB k (va_up (va_up B 25 (B 0)) 0 ((dwR T L (B 0)).1, (dwR T L (B 0)).2.1))) (keN k) lf lg N ((dwR T L (B 0)).2.2.2.1) n W sn ho hw ∧ fC M M2) := by
  obtain ⟨ix, hC⟩ := hI.2.1.1
  obtain ⟨f0, hP⟩ := hI.2.1.2.1
  refine Ct_le (d := 8) (by decide) (Ct_mono ?_ (c_X11_draw (d := 0) (L := L) (k := k) (f := f0) (s := T) (B := B) hS hI.1.1 hA.1.1 hI.1.2.1 (fun j hj => ⟨by rw [hI.1.2.2.1], hA.1.2.1 j hj⟩) hC hA.2.1.1.1 hA.2.1.1.2 hP))
  rintro _ M2 ⟨rfl, hf, -, hn⟩
  obtain ⟨⟨a1, a2, a3, a4⟩, ⟨⟨ix, b1⟩, ⟨f, b2⟩, b3⟩, ⟨s1, s2⟩, ⟨d1, d2, d3⟩, e1, e2, e3, e4⟩ := hI
  obtain ⟨⟨i2, hc⟩, ⟨f2, hp⟩, h15, h63, h66⟩ := hn c
  have g : ∀ a, a ≤ 2 ∨ a = 4 ∨ a = 5 ∨ (252 ≤ a ∧ a ≠ 263 ∧ a ≠ 266) → M2.2.1 a = M.2.1 a ∧ M2.2.2 a = M.2.2 a := hf.2.1
  have hcs : ∀ s, s < 4 → ∀ X iy, CF M (277 + 10 * s) X iy → CF M2 (277 + 10 * s) X iy := fun s hs X iy q => q.of (fun a h1 h2 => g a (by omega))
  rw [c]
  refine ⟨rfl, ⟨⟨a1.of (g 4 (by omega)).2, hf.2.2.2.2.1, by rw [(g 5 (by omega)).1]; exact a3, a4.of (g 261 (by omega)).1 (g 262 (by omega)).1⟩, ⟨⟨i2, by rw [keB_lo (by decide), up_at]; exact hc⟩, ⟨f2, hp⟩, h15⟩, ⟨fun s hs => by rw [(g 253 (by omega)).1]; exact s1 s hs, fun s hs l1 => ?_⟩, ⟨(d1.of (by rw [(g 254 (by omega)).1]) (g 255 (by omega)).1).x rfl, d2.of (hf.2.2.2.1 3 (by decide)) (g 267 (by omega)).1 (g 268 (by omega)).1, d3.of (by rw [(g 270 (by omega)).1]) (g 271 (by omega)).1 (g 272 (by omega)).1⟩, Or.inl h63, e2.of (g 264 (by omega)).1 (g 265 (by omega)).1 (fun s hs => by rw [keB_lo (by omega), up_ne (by omega), up_ne (by omega)]), Or.inl h66, e4.of (by rw [(g 270 (by omega)).1]) (by rw [(g 270 (by omega)).1]) (g 273 (by omega)).1 (g 274 (by omega)).2 (g 275 (by omega)).2 (fun s hs => by rw [keB_lo (by omega), up_ne (by omega), up_ne (by omega)]) hcs⟩, hf.1, fun a ha => g a (by omega)⟩
  obtain ⟨iy, h9⟩ := s2 s hs l1
  rw [keB_lo (by omega), up_ne (by omega), up_ne (by omega)]
  exact ⟨iy, hcs s hs _ _ h9⟩
