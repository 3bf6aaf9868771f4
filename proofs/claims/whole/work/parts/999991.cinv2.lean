/-! the class's calls that change it -/
theorem rnL_n : ∀ (m h : Nat) (x : rnS), x.2.2 ≤ (rnL m h x).2.2.2 ∧ (rnL m h x).2.2.2 ≤ x.2.2 + m ∧ ((rnL m h x).2.2.2 = x.2.2 → (rnL m h x).2 = x)
  | 0, _, x => ⟨Nat.le_refl _, Nat.le_refl _, fun _ => rfl⟩
  | m + 1, h, x => by
    have e1 : (rn1 x h).2.2 = x.2.2 + 1 := rfl
    rw [rnL]
    by_cases c1 : x.1.1.2.2.2.2 h = 0
    · rw [if_pos c1]; exact ⟨Nat.le_refl _, by show x.2.2 ≤ _; omega, fun _ => rfl⟩
    rw [if_neg c1]
    by_cases c2 : 256 ≤ (bH x.1.1 (-2) x.1.2 h).1
    · rw [if_pos c2]; exact ⟨by show x.2.2 ≤ (rn1 x h).2.2; omega, by show (rn1 x h).2.2 ≤ _; omega, fun e => by have : (rn1 x h).2.2 = x.2.2 := e; omega⟩
    rw [if_neg c2]
    by_cases c3 : x.1.1.2.2.2.1 (bH x.1.1 (-2) x.1.2 h).1.toNat < 0
    · rw [if_pos c3]; exact ⟨by show x.2.2 ≤ (rn1 x h).2.2; omega, by show (rn1 x h).2.2 ≤ _; omega, fun e => by have : (rn1 x h).2.2 = x.2.2 := e; omega⟩
    rw [if_neg c3]
    have ih := rnL_n m (x.1.1.2.2.2.1 (bH x.1.1 (-2) x.1.2 h).1.toNat).toNat (rn1 x h)
    exact ⟨by omega, by omega, fun e => by omega⟩
theorem rnL_ok : ∀ (m h : Nat) (x : rnS), rnOk x → h < 4 → rnOk (rnL m h x).2
  | 0, _, x, hx, _ => hx
  | m + 1, h, x, hx, hh => by
    rw [rnL]
    by_cases c1 : x.1.1.2.2.2.2 h = 0
    · rw [if_pos c1]; exact hx
    rw [if_neg c1]
    have h1 := rn1_ok hx hh c1
    by_cases c2 : 256 ≤ (bH x.1.1 (-2) x.1.2 h).1
    · rw [if_pos c2]; exact h1
    rw [if_neg c2]
    have hy := (bH_K (st := -2) hx.1 hh hx.2).2
    by_cases c3 : x.1.1.2.2.2.1 (bH x.1.1 (-2) x.1.2 h).1.toNat < 0
    · rw [if_pos c3]; exact h1
    rw [if_neg c3]
    have h9 := hx.1.2.1 (bH x.1.1 (-2) x.1.2 h).1.toNat (by omega)
    exact rnL_ok m _ _ h1 (by omega)
theorem keB_lo {k i : Nat} {B : Nat → bS} (hi : i < 5) : keB k B i = B i := by
  unfold keB
  split
  · rw [up_ne (by omega)]; unfold shB; rw [if_neg (by omega)]
  · rw [up_ne (by omega)]
theorem kC_runN {M : pM} {T : Nat → Int} {L : Nat} {B : Nat → bS} {k : Nat} {lf lg : Nat → Int} {N pu n : Nat} {W : Nat → Int} {sn : Nat} {ho : Nat → Nat} {hw : Nat → Int} {z m : Int} (hS : sOk M.1) (hA : AI T L B k lf N ho) (hI : CI M T L B k lf lg N pu n W sn ho hw) (hz : inR z) (hm : inR m) (c : ¬ ((0 ≤ z ∧ z < 4) ∧ 1 ≤ m ∧ m ≤ 200)) : Ct 340 0 0 yX11_run [.ref 2, .int (iI z), .int (iI m)] M (fun v M2 => v = some (.int (iI (-1))) ∧ CI M2 T L B k lf lg N pu n W sn ho hw ∧ fC M M2) := by
  refine Ct_le (d := 2) (by decide) (Ct_mono ?_ (c_X11_runN (d := 0) hS c hz hm))
  rintro _ M2 ⟨rfl, h⟩
  exact ⟨rfl, hI.rf h⟩
theorem kC_runY {M : pM} {T : Nat → Int} {L : Nat} {B : Nat → bS} {k : Nat} {lf lg : Nat → Int} {N pu n : Nat} {W : Nat → Int} {sn : Nat} {ho : Nat → Nat} {hw : Nat → Int} {h m : Nat} (hS : sOk M.1) (hA : AI T L B k lf N ho) (hI : CI M T L B k lf lg N pu n W sn ho hw) (hh : h < 4) (hm : 1 ≤ m ∧ m ≤ 200) : Ct 340 0 0 yX11_run [.ref 2, .int (iI ((h : Nat) : Int)), .int (iI ((m : Nat) : Int))] M (fun v M2 => v = some (.int (iI ((rnL m h (B 0, lg, N)).1))) ∧ CI M2 T L (va_up B 0 (rnL m h (B 0, lg, N)).2.1) k lf ((rnL m h (B 0, lg, N)).2.2.1) ((rnL m h (B 0, lg, N)).2.2.2) pu n W sn ho hw ∧ fC M M2) := by
  obtain ⟨ix, hC⟩ := hI.2.1.1
  refine Ct_le (d := 5) (by decide) (Ct_mono ?_ (c_X11_runY (d := 0) (x := (B 0, lg, N)) hS hC hA.2.1.1 hh hI.2.2.2.1.1 hA.1.2.2.2 hm))
  rintro _ M2 ⟨rfl, hc, hl, hf, hd⟩
  have h0 := rnL_n m h (B 0, lg, N)
  obtain ⟨r, hr⟩ : ∃ r, r = rnL m h (B 0, lg, N) := ⟨_, rfl⟩
  rw [← hr] at hc hl h0 ⊢
  refine ⟨rfl, ?_, hf.1, fun a ha => ⟨hf.2.1 a (by simp only [List.mem_cons, List.not_mem_nil, or_false]; omega), hf.2.2.1 a (by omega)⟩⟩
  rcases hd with ⟨e, -⟩ | ⟨n1, n2⟩
  · have e2 : r.2 = (B 0, lg, N) := h0.2.2 (by
      have q1 := hl.1
      have q2 := hI.2.2.2.1.1.1
      rw [e, q2] at q1
      show r.2.2.2 = N
      have q3 : ((N : Nat) : Int) = ((r.2.2.2 : Nat) : Int) := q1
      omega)
    rw [e2]
    refine hI.of (fun a _ _ => by rw [e]; exact ⟨rfl, rfl⟩) (fun i _ => ?_)
    by_cases u : i = 0
    · rw [u]; exact up_at
    · exact up_ne u
  · obtain ⟨⟨a1, a2, a3, a4⟩, ⟨-, ⟨f, b2⟩, b3⟩, ⟨s1, s2⟩, ⟨d1, d2, d3⟩, e1, e2, e3, e4⟩ := hI
    have hcs : ∀ s, s < 4 → ∀ X iy, CF M (277 + 10 * s) X iy → CF M2 (277 + 10 * s) X iy := fun s hs X iy q => q.of (fun a h1 h2 => ⟨hf.2.1 a (by simp only [List.mem_cons, List.not_mem_nil, or_false]; omega), hf.2.2.1 a (by omega)⟩)
    refine ⟨⟨a1.of (hf.2.2.1 4 (by decide)), by rw [hf.2.1 3 (by decide)]; exact a2, by rw [hf.2.1 5 (by decide)]; exact a3, a4.of (hf.2.1 261 (by decide)) (hf.2.1 262 (by decide))⟩, ⟨⟨ix, by rw [up_at]; exact hc⟩, ⟨f, (b2.of (hf.2.1 40 (by decide)) (fun a h1 h2 => ⟨hf.2.1 a (by simp only [List.mem_cons, List.not_mem_nil, or_false]; omega), hf.2.2.1 a (by omega)⟩)).eq (fun j h1 h2 => up_ne (by omega))⟩, by rw [hf.2.1 29 (by decide)]; exact b3⟩, ⟨fun s hs => by rw [hf.2.1 253 (by decide)]; exact s1 s hs, fun s hs l1 => ?_⟩, ⟨hl.x rfl, d2.of (hf.2.2.2.2.1 3 (by decide)) (hf.2.1 267 (by decide)) (hf.2.1 268 (by decide)), d3.of (by rw [hf.2.1 270 (by decide)]) (hf.2.1 271 (by decide)) (hf.2.1 272 (by decide))⟩, Or.inl n1, e2.of (hf.2.1 264 (by decide)) (hf.2.1 265 (by decide)) (fun s hs => up_ne (by omega)), Or.inl n2, e4.of (by rw [hf.2.1 270 (by decide)]) (by rw [hf.2.1 270 (by decide)]) (hf.2.1 273 (by decide)) (hf.2.2.1 274 (by decide)) (hf.2.2.1 275 (by decide)) (fun s hs => up_ne (by omega)) hcs⟩
    obtain ⟨iy, h9⟩ := s2 s hs l1
    rw [up_ne (by omega)]
    exact ⟨iy, hcs s hs _ _ h9⟩
theorem kC_feed {M : pM} {T : Nat → Int} {L : Nat} {B : Nat → bS} {k : Nat} {lf lg : Nat → Int} {N pu n : Nat} {W : Nat → Int} {sn : Nat} {ho : Nat → Nat} {hw : Nat → Int} {a b c : Int64} (hS : sOk M.1) (hA : AI T L B k lf N ho) (hI : CI M T L B k lf lg N pu n W sn ho hw)  : Ct 340 0 0 yX11_feed [.ref 2, .long a, .long b, .long c] M (fun v M2 => v = some (.int (iI ((((fdN a b c (T, L)).2 : Nat) : Int)))) ∧ CI M2 ((fdN a b c (T, L)).1) ((fdN a b c (T, L)).2) B k lf lg N pu n W sn ho hw ∧ fC M M2) := by
  refine Ct_le (d := 2) (by decide) (Ct_mono ?_ (c_X11_feed (d := 0) (a := a) (b := b) (c := c) hS hI.1.2.1 hA.1.1))
  rintro v M2 ⟨rfl, hf, h2, h3⟩
  obtain ⟨⟨a1, a2, a3, a4⟩, ⟨⟨ix, b1⟩, ⟨f, b2⟩, b3⟩, ⟨s1, s2⟩, ⟨d1, d2, d3⟩, e1, e2, e3, e4⟩ := hI
  rw [a3] at h2 h3 ⊢
  have hcs : ∀ s, s < 4 → ∀ X iy, CF M (277 + 10 * s) X iy → CF M2 (277 + 10 * s) X iy := fun s hs X iy q => q.of (fun a h1 h2 => hf.2 a (by simp only [List.mem_cons, List.not_mem_nil, or_false]; omega))
  refine ⟨rfl, ⟨⟨a1.of (hf.j (by decide)), by rw [h3, up_at], h2, a4.of (hf.i (by decide)) (hf.i (by decide))⟩, ⟨⟨ix, b1.of (fun a h1 h2 => hf.2 a (by simp only [List.mem_cons, List.not_mem_nil, or_false]; omega))⟩, ⟨f, b2.of (hf.i (by decide)) (fun a h1 h2 => hf.2 a (by simp only [List.mem_cons, List.not_mem_nil, or_false]; omega))⟩, by rw [hf.i (by decide)]; exact b3⟩, ⟨fun s hs => by rw [hf.i (by decide)]; exact s1 s hs, fun s hs l1 => ?_⟩, ⟨d1.of (by rw [hf.i (by decide)]) (hf.i (by decide)), d2.of (by rw [hf.i (by decide)]) (hf.i (by decide)) (hf.i (by decide)), d3.of (by rw [hf.i (by decide)]) (hf.i (by decide)) (hf.i (by decide))⟩, e1.of (hf.i (by decide)), e2.of (hf.i (by decide)) (hf.i (by decide)) (fun _ _ => rfl), e3.of (by rw [hf.i (by decide)]) (by rw [hf.i (by decide)]) (hf.i (by decide)), e4.of (by rw [hf.i (by decide)]) (by rw [hf.i (by decide)]) (hf.i (by decide)) (hf.j (by decide)) (hf.j (by decide)) (fun _ _ => rfl) hcs⟩, fC.of hf (by decide)⟩
  obtain ⟨iy, h9⟩ := s2 s hs l1
  exact ⟨iy, hcs s hs _ _ h9⟩
theorem kC_takeBackN {M : pM} {T : Nat → Int} {L : Nat} {B : Nat → bS} {k : Nat} {lf lg : Nat → Int} {N pu n : Nat} {W : Nat → Int} {sn : Nat} {ho : Nat → Nat} {hw : Nat → Int}  (hS : sOk M.1) (hA : AI T L B k lf N ho) (hI : CI M T L B k lf lg N pu n W sn ho hw) (h0 : k = 0) : Ct 340 0 0 yX11_takeBack [.ref 2] M (fun v M2 => v = some (.int (iI (0))) ∧ CI M2 T L B k lf lg N pu n W sn ho hw ∧ fC M M2) := by
  obtain ⟨f, hP⟩ := hI.2.1.2.1
  refine Ct_le (d := 4) (by decide) (Ct_mono ?_ (c_X11_takeBack (d := 0) hS hP))
  rintro _ M2 ⟨rfl, h⟩
  rw [if_pos h0] at h ⊢
  exact ⟨rfl, hI.rf h⟩
theorem kC_takeBackY {M : pM} {T : Nat → Int} {L : Nat} {B : Nat → bS} {k : Nat} {lf lg : Nat → Int} {N pu n : Nat} {W : Nat → Int} {sn : Nat} {ho : Nat → Nat} {hw : Nat → Int}  (hS : sOk M.1) (hA : AI T L B k lf N ho) (hI : CI M T L B k lf lg N pu n W sn ho hw) (h0 : ¬ k = 0) : Ct 340 0 0 yX11_takeBack [.ref 2] M (fun v M2 => v = some (.int (iI (1))) ∧ CI M2 T L (va_up B 0 (B (5 + (k - 1)))) (k - 1) lf lg N pu n W sn ho hw ∧ fC M M2) := by
  obtain ⟨f0, hP⟩ := hI.2.1.2.1
  refine Ct_le (d := 4) (by decide) (Ct_mono ?_ (c_X11_takeBack (d := 0) hS hP))
  rintro _ M2 ⟨rfl, h⟩
  rw [if_neg h0] at h ⊢
  obtain ⟨hf, ⟨i2, hc⟩, hp⟩ := h
  obtain ⟨⟨a1, a2, a3, a4⟩, ⟨⟨ix, b1⟩, ⟨f, b2⟩, b3⟩, ⟨s1, s2⟩, ⟨d1, d2, d3⟩, e1, e2, e3, e4⟩ := hI
  have g : ∀ a, ¬ (19 ≤ a ∧ a ≤ 28) → a ≠ 40 → a ≠ 263 → a ≠ 266 → M2.2.1 a = M.2.1 a ∧ M2.2.2 a = M.2.2 a := hf.2.1
  have hcs : ∀ s, s < 4 → ∀ X iy, CF M (277 + 10 * s) X iy → CF M2 (277 + 10 * s) X iy := fun s hs X iy q => q.of (fun a h1 h2 => g a (by omega) (by omega) (by omega) (by omega))
  refine ⟨rfl, ⟨⟨a1.of (g 4 (by decide) (by decide) (by decide) (by decide)).2, by rw [(g 3 (by decide) (by decide) (by decide) (by decide)).1]; exact a2, by rw [(g 5 (by decide) (by decide) (by decide) (by decide)).1]; exact a3, a4.of (g 261 (by decide) (by decide) (by decide) (by decide)).1 (g 262 (by decide) (by decide) (by decide) (by decide)).1⟩, ⟨⟨i2, by rw [up_at]; exact hc⟩, ⟨f0, hp.eq (fun j h1 h2 => up_ne (by omega))⟩, by rw [(g 29 (by decide) (by decide) (by decide) (by decide)).1]; exact b3⟩, ⟨fun s hs => by rw [(g 253 (by decide) (by decide) (by decide) (by decide)).1]; exact s1 s hs, fun s hs l1 => ?_⟩, ⟨(d1.of (by rw [(g 254 (by decide) (by decide) (by decide) (by decide)).1]) (g 255 (by decide) (by decide) (by decide) (by decide)).1).x rfl, d2.of (hf.2.2.2.1 3 (by decide)) (g 267 (by decide) (by decide) (by decide) (by decide)).1 (g 268 (by decide) (by decide) (by decide) (by decide)).1, d3.of (by rw [(g 270 (by decide) (by decide) (by decide) (by decide)).1]) (g 271 (by decide) (by decide) (by decide) (by decide)).1 (g 272 (by decide) (by decide) (by decide) (by decide)).1⟩, Or.inl hf.2.2.2.2.1, e2.of (g 264 (by decide) (by decide) (by decide) (by decide)).1 (g 265 (by decide) (by decide) (by decide) (by decide)).1 (fun s hs => up_ne (by omega)), Or.inl hf.2.2.2.2.2, e4.of (by rw [(g 270 (by decide) (by decide) (by decide) (by decide)).1]) (by rw [(g 270 (by decide) (by decide) (by decide) (by decide)).1]) (g 273 (by decide) (by decide) (by decide) (by decide)).1 (g 274 (by decide) (by decide) (by decide) (by decide)).2 (g 275 (by decide) (by decide) (by decide) (by decide)).2 (fun s hs => up_ne (by omega)) hcs⟩, hf.1, fun a ha => g a (by omega) (by omega) (by omega) (by omega)⟩
  obtain ⟨iy, h9⟩ := s2 s hs l1
  rw [up_ne (by omega)]
  exact ⟨iy, hcs s hs _ _ h9⟩
theorem kC_shelfN {M : pM} {T : Nat → Int} {L : Nat} {B : Nat → bS} {k : Nat} {lf lg : Nat → Int} {N pu n : Nat} {W : Nat → Int} {sn : Nat} {ho : Nat → Nat} {hw : Nat → Int} {z y : Int} (hS : sOk M.1) (hA : AI T L B k lf N ho) (hI : CI M T L B k lf lg N pu n W sn ho hw) (hz : inR z) (c : ¬ (0 ≤ z ∧ z < 4)) : Ct 340 0 0 yX11_shelf [.ref 2, .int (iI z), .int (iI y)] M (fun v M2 => v = some (.int (iI (0))) ∧ CI M2 T L B k lf lg N pu n W sn ho hw ∧ fC M M2) := by
  refine Ct_le (d := 1) (by decide) (Ct_mono ?_ (c_X11_shelfN (d := 0) hS c hz))
  rintro _ M2 ⟨rfl, h⟩
  exact ⟨rfl, hI.rf h⟩
theorem kC_shelfE {M : pM} {T : Nat → Int} {L : Nat} {B : Nat → bS} {k : Nat} {lf lg : Nat → Int} {N pu n : Nat} {W : Nat → Int} {sn : Nat} {ho : Nat → Nat} {hw : Nat → Int} {s : Nat} (hS : sOk M.1) (hA : AI T L B k lf N ho) (hI : CI M T L B k lf lg N pu n W sn ho hw) (hs : s < 4) (c : lf s = 0) : Ct 340 0 0 yX11_shelf [.ref 2, .int (iI ((s : Nat) : Int)), .int (iI 1)] M (fun v M2 => v = some (.int (iI (0))) ∧ CI M2 T L B k lf lg N pu n W sn ho hw ∧ fC M M2) := by
  refine Ct_le (d := 1) (by decide) (Ct_mono ?_ (c_X11_shelfE (d := 0) hS hs (by rw [hI.2.2.1.1 s hs]; exact c)))
  rintro _ M2 ⟨rfl, h⟩
  exact ⟨rfl, hI.rf h⟩
theorem kC_shelfB {M : pM} {T : Nat → Int} {L : Nat} {B : Nat → bS} {k : Nat} {lf lg : Nat → Int} {N pu n : Nat} {W : Nat → Int} {sn : Nat} {ho : Nat → Nat} {hw : Nat → Int} {s : Nat} (hS : sOk M.1) (hA : AI T L B k lf N ho) (hI : CI M T L B k lf lg N pu n W sn ho hw) (hs : s < 4) (c : lf s = 1) : Ct 340 0 0 yX11_shelf [.ref 2, .int (iI ((s : Nat) : Int)), .int (iI 1)] M (fun v M2 => v = some (.int (iI (1))) ∧ CI M2 T L (va_up B 0 (B (1 + s))) (0) lf lg N pu n W sn ho hw ∧ fC M M2) := by
  obtain ⟨f0, hP⟩ := hI.2.1.2.1
  obtain ⟨i2, hC0⟩ := hI.2.2.1.2 s hs c
  refine Ct_le (d := 2) (by decide) (Ct_mono ?_ (c_X11_shelfB (d := 0) hS hs (by rw [hI.2.2.1.1 s hs]; exact c) hC0 hP))
  rintro _ M2 ⟨rfl, hf, hc, hp⟩
  obtain ⟨⟨a1, a2, a3, a4⟩, ⟨⟨ix, b1⟩, ⟨f, b2⟩, b3⟩, ⟨s1, s2⟩, ⟨d1, d2, d3⟩, e1, e2, e3, e4⟩ := hI
  have g : ∀ a, ¬ (19 ≤ a ∧ a ≤ 28) → a ≠ 40 → a ≠ 263 → a ≠ 266 → M2.2.1 a = M.2.1 a ∧ M2.2.2 a = M.2.2 a := hf.2.1
  have hcs : ∀ s, s < 4 → ∀ X iy, CF M (277 + 10 * s) X iy → CF M2 (277 + 10 * s) X iy := fun s hs X iy q => q.of (fun a h1 h2 => g a (by omega) (by omega) (by omega) (by omega))
  refine ⟨rfl, ⟨⟨a1.of (g 4 (by decide) (by decide) (by decide) (by decide)).2, by rw [(g 3 (by decide) (by decide) (by decide) (by decide)).1]; exact a2, by rw [(g 5 (by decide) (by decide) (by decide) (by decide)).1]; exact a3, a4.of (g 261 (by decide) (by decide) (by decide) (by decide)).1 (g 262 (by decide) (by decide) (by decide) (by decide)).1⟩, ⟨⟨i2, by rw [up_at]; exact hc⟩, ⟨f0, hp.eq (fun j h1 h2 => up_ne (by omega))⟩, by rw [(g 29 (by decide) (by decide) (by decide) (by decide)).1]; exact b3⟩, ⟨fun s hs => by rw [(g 253 (by decide) (by decide) (by decide) (by decide)).1]; exact s1 s hs, fun s hs l1 => ?_⟩, ⟨(d1.of (by rw [(g 254 (by decide) (by decide) (by decide) (by decide)).1]) (g 255 (by decide) (by decide) (by decide) (by decide)).1).x rfl, d2.of (hf.2.2.2.1 3 (by decide)) (g 267 (by decide) (by decide) (by decide) (by decide)).1 (g 268 (by decide) (by decide) (by decide) (by decide)).1, d3.of (by rw [(g 270 (by decide) (by decide) (by decide) (by decide)).1]) (g 271 (by decide) (by decide) (by decide) (by decide)).1 (g 272 (by decide) (by decide) (by decide) (by decide)).1⟩, Or.inl hf.2.2.2.2.1, e2.of (g 264 (by decide) (by decide) (by decide) (by decide)).1 (g 265 (by decide) (by decide) (by decide) (by decide)).1 (fun s hs => up_ne (by omega)), Or.inl hf.2.2.2.2.2, e4.of (by rw [(g 270 (by decide) (by decide) (by decide) (by decide)).1]) (by rw [(g 270 (by decide) (by decide) (by decide) (by decide)).1]) (g 273 (by decide) (by decide) (by decide) (by decide)).1 (g 274 (by decide) (by decide) (by decide) (by decide)).2 (g 275 (by decide) (by decide) (by decide) (by decide)).2 (fun s hs => up_ne (by omega)) hcs⟩, hf.1, fun a ha => g a (by omega) (by omega) (by omega) (by omega)⟩
  obtain ⟨iy, h9⟩ := s2 s hs l1
  rw [up_ne (by omega)]
  exact ⟨iy, hcs s hs _ _ h9⟩
theorem kC_shelfP {M : pM} {T : Nat → Int} {L : Nat} {B : Nat → bS} {k : Nat} {lf lg : Nat → Int} {N pu n : Nat} {W : Nat → Int} {sn : Nat} {ho : Nat → Nat} {hw : Nat → Int} {s : Nat} (hS : sOk M.1) (hA : AI T L B k lf N ho) (hI : CI M T L B k lf lg N pu n W sn ho hw) (hs : s < 4) : Ct 340 0 0 yX11_shelf [.ref 2, .int (iI ((s : Nat) : Int)), .int (iI 0)] M (fun v M2 => v = some (.int (iI (1))) ∧ CI M2 T L (va_up B (1 + s) (B 0)) k (va_up lf s 1) lg N pu n W sn ho hw ∧ fC M M2) := by
  obtain ⟨i0, hC0⟩ := hI.2.1.1
  refine Ct_le (d := 2) (by decide) (Ct_mono ?_ (c_X11_shelfP (d := 0) hS hs hC0))
  rintro _ M2 ⟨rfl, hf, hc2, hc⟩
  obtain ⟨⟨a1, a2, a3, a4⟩, ⟨⟨ix, b1⟩, ⟨f, b2⟩, b3⟩, ⟨s1, s2⟩, ⟨d1, d2, d3⟩, e1, e2, e3, e4⟩ := hI
  have g : ∀ a, ¬ (277 + 10 * s ≤ a ∧ a ≤ 286 + 10 * s) → a ≠ 253 → a ≠ 264 → a ≠ 270 → M2.2.1 a = M.2.1 a ∧ M2.2.2 a = M.2.2 a := hf.2.1
  refine ⟨rfl, ⟨⟨a1.of (g 4 (by omega) (by decide) (by decide) (by decide)).2, by rw [(g 3 (by omega) (by decide) (by decide) (by decide)).1]; exact a2, by rw [(g 5 (by omega) (by decide) (by decide) (by decide)).1]; exact a3, a4.of (g 261 (by omega) (by decide) (by decide) (by decide)).1 (g 262 (by omega) (by decide) (by decide) (by decide)).1⟩, ⟨⟨i0, by rw [up_ne (by omega)]; exact hc⟩, ⟨f, (b2.of (g 40 (by omega) (by decide) (by decide) (by decide)).1 (fun a h1 h2 => g a (by omega) (by omega) (by omega) (by omega))).eq (fun j h1 h2 => up_ne (by omega))⟩, by rw [(g 29 (by omega) (by decide) (by decide) (by decide)).1]; exact b3⟩, ⟨fun t ht => ?_, fun t ht l1 => ?_⟩, ⟨(d1.of (by rw [(g 254 (by omega) (by decide) (by decide) (by decide)).1]) (g 255 (by omega) (by decide) (by decide) (by decide)).1).x rfl, d2.of (by rw [(g 266 (by omega) (by decide) (by decide) (by decide)).1]) (g 267 (by omega) (by decide) (by decide) (by decide)).1 (g 268 (by omega) (by decide) (by decide) (by decide)).1, d3.of (hf.2.2.2.2.1 6 (by decide)) (g 271 (by omega) (by decide) (by decide) (by decide)).1 (g 272 (by omega) (by decide) (by decide) (by decide)).1⟩, by rw [up_ne (by omega)]; exact e1.of (g 263 (by omega) (by decide) (by decide) (by decide)).1, Or.inl hf.2.2.2.2.2.1, by rw [up_ne (by omega)]; exact e3.of (by rw [(g 266 (by omega) (by decide) (by decide) (by decide)).1]) (by rw [(g 266 (by omega) (by decide) (by decide) (by decide)).1]) (g 269 (by omega) (by decide) (by decide) (by decide)).1, Or.inl hf.2.2.2.2.2.2⟩, hf.1, fun a ha => g a (by omega) (by omega) (by omega) (by omega)⟩
  · rw [hf.2.2.1]
    by_cases u : t = s
    · rw [u, up_at, up_at]
    · rw [up_ne u, up_ne u]; exact s1 t ht
  · by_cases u : t = s
    · rw [u, up_at]; exact ⟨i0, hc2⟩
    · rw [up_ne u] at l1
      obtain ⟨iy, h9⟩ := s2 t ht l1
      rw [up_ne (by omega)]
      exact ⟨iy, h9.of (fun a h1 h2 => g a (by omega) (by omega) (by omega) (by omega))⟩
