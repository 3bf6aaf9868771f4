/-! the class's calls, by what it holds -/
section CIK
variable {M M1 M2 : pM} {T : Nat → Int} {L : Nat} {B : Nat → bS} {k : Nat} {lf lg : Nat → Int} {N pu n : Nat} {W : Nat → Int} {sn : Nat} {ho : Nat → Nat} {hw : Nat → Int}
theorem CI.ke (h : CI M T L B k lf lg N pu n W sn ho hw) (j4 : M2.2.2 4 = M.2.2 4) (hr : ∀ a, a ∈ [3, 5, 29, 253, 254, 255, 267, 268, 271, 272] → M2.2.1 a = M.2.1 a) (h66 : M2.2.1 266 3 = M.2.1 266 3) (h70 : M2.2.1 270 6 = M.2.1 270 6) (hs : SNr M2) (h40 : M2.2.1 40 = M.2.1 40) (hp : ∀ a, 42 ≤ a → a ≤ 251 → M2.2.1 a = M.2.1 a ∧ M2.2.2 a = M.2.2 a) (hc : ∀ X ix, CF M 19 X ix → CF M2 19 X ix) (hcs : ∀ s, s < 4 → ∀ X ix, CF M (277 + 10 * s) X ix → CF M2 (277 + 10 * s) X ix) (c1 : CRd M2 (B 0)) (c2 : CTl M2 B) (c3 : CWy M2 (B 0) W) (c4 : CSg M2 B ho hw sn) : CI M2 T L B k lf lg N pu n W sn ho hw := by
  obtain ⟨⟨a1, a2, a3, a4⟩, ⟨⟨ix, b1⟩, ⟨f, b2⟩, b3⟩, ⟨s1, s2⟩, ⟨d1, d2, d3⟩, e1, e2, e3, e4⟩ := h
  refine ⟨⟨a1.of j4, by rw [hr 3 (by decide)]; exact a2, by rw [hr 5 (by decide)]; exact a3, hs⟩, ⟨⟨ix, hc _ _ b1⟩, ⟨f, b2.of h40 hp⟩, by rw [hr 29 (by decide)]; exact b3⟩, ⟨fun s q => by rw [hr 253 (by decide)]; exact s1 s q, fun s q l1 => ?_⟩, ⟨d1.of (by rw [hr 254 (by decide)]) (hr _ (by decide)), d2.of h66 (hr _ (by decide)) (hr _ (by decide)), d3.of h70 (hr _ (by decide)) (hr _ (by decide))⟩, c1, c2, c3, c4⟩
  obtain ⟨iy, h9⟩ := s2 s q l1
  exact ⟨iy, hcs s q _ _ h9⟩
theorem CI.rf (h : CI M T L B k lf lg N pu n W sn ho hw) (e : M2 = M) : CI M2 T L B k lf lg N pu n W sn ho hw ∧ fC M M2 := by rw [e]; exact ⟨h, fC.rf⟩
theorem CI.fJ (h : CI M T L B k lf lg N pu n W sn ho hw) {z : Int64} (e : M2 = pJ M 19 12 z) : CI M2 T L B k lf lg N pu n W sn ho hw ∧ fC M M2 := by
  have hf : fr [19] M M2 := by rw [e]; exact fr.rf.J (by decide)
  have e0 : M2.2.1 19 = M.2.1 19 := by rw [e]; rfl
  have e1 : M2.2.2 19 11 = M.2.2 19 11 := by rw [e]; exact pJ_nk (by decide)
  exact ⟨h.ke (hf.j (by decide)) (fun a ha => hf.i (by revert ha; simp only [List.mem_cons, List.not_mem_nil, or_false]; omega)) (by rw [hf.i (by decide)]) (by rw [hf.i (by decide)]) (h.1.2.2.2.of (hf.i (by decide)) (hf.i (by decide))) (hf.i (by decide)) (fun a h1 h2 => hf.2 a (by simp only [List.mem_cons, List.not_mem_nil, or_false]; omega)) (fun X ix q => q.of2 e0 e1 (fun a h1 h2 => hf.2 a (by simp only [List.mem_cons, List.not_mem_nil, or_false]; omega))) (fun s hs X ix q => q.of (fun a h1 h2 => hf.2 a (by simp only [List.mem_cons, List.not_mem_nil, or_false]; omega))) (h.2.2.2.2.1.of (hf.i (by decide))) (h.2.2.2.2.2.1.of (hf.i (by decide)) (hf.i (by decide)) (fun _ _ => rfl)) (h.2.2.2.2.2.2.1.of (by rw [hf.i (by decide)]) (by rw [hf.i (by decide)]) (hf.i (by decide))) (h.2.2.2.2.2.2.2.of (by rw [hf.i (by decide)]) (by rw [hf.i (by decide)]) (hf.i (by decide)) (hf.j (by decide)) (hf.j (by decide)) (fun _ _ => rfl) (fun s hs X ix q => q.of (fun a h1 h2 => hf.2 a (by simp only [List.mem_cons, List.not_mem_nil, or_false]; omega)))), fC.of hf (by decide)⟩
theorem CI.fY (h : CI M T L B k lf lg N pu n W sn ho hw) (hf : frY M M2) (hs : SNr M2) (c1 : CRd M2 (B 0)) : CI M2 T L B k lf lg N pu n W sn ho hw ∧ fC M M2 :=
  ⟨h.ke (hf.1.j (by decide)) (fun a ha => hf.1.i (by revert ha; simp only [List.mem_cons, List.not_mem_nil, or_false]; omega)) (by rw [hf.1.i (by decide)]) (by rw [hf.1.i (by decide)]) hs (hf.1.i (by decide)) (fun a h1 h2 => hf.1.2 a (by simp only [List.mem_cons, List.not_mem_nil, or_false]; omega)) (fun X ix q => q.of2 hf.2.1 (hf.2.2 11 (by decide)) (fun a h1 h2 => hf.1.2 a (by simp only [List.mem_cons, List.not_mem_nil, or_false]; omega))) (fun s hs X ix q => q.of (fun a h1 h2 => hf.1.2 a (by simp only [List.mem_cons, List.not_mem_nil, or_false]; omega))) c1 (h.2.2.2.2.2.1.of (hf.1.i (by decide)) (hf.1.i (by decide)) (fun _ _ => rfl)) (h.2.2.2.2.2.2.1.of (by rw [hf.1.i (by decide)]) (by rw [hf.1.i (by decide)]) (hf.1.i (by decide))) (h.2.2.2.2.2.2.2.of (by rw [hf.1.i (by decide)]) (by rw [hf.1.i (by decide)]) (hf.1.i (by decide)) (hf.1.j (by decide)) (hf.1.j (by decide)) (fun _ _ => rfl) (fun s hs X ix q => q.of (fun a h1 h2 => hf.1.2 a (by simp only [List.mem_cons, List.not_mem_nil, or_false]; omega)))), fC.of hf.1 (by decide)⟩
theorem CI.fX {sa sb : Nat} (h : CI M T L B k lf lg N pu n W sn ho hw) (ha : sa < 4) (hb : sb < 4) (hf : frX sa sb M M2) (hs : SNr M2) (c2 : tlV M2 B sa sb) : CI M2 T L B k lf lg N pu n W sn ho hw ∧ fC M M2 := by
  have hcs : ∀ s, s < 4 → ∀ X ix, CF M (277 + 10 * s) X ix → CF M2 (277 + 10 * s) X ix := fun s hs X ix q => by
    have e0 : M2.2.1 (277 + 10 * s) = M.2.1 (277 + 10 * s) ∧ M2.2.2 (277 + 10 * s) 11 = M.2.2 (277 + 10 * s) 11 := by
      by_cases c : 277 + 10 * s = 277 + 10 * sa ∨ 277 + 10 * s = 277 + 10 * sb
      · exact ⟨(hf.2 _ c).1, (hf.2 _ c).2 11 (by decide)⟩
      · have h9 := hf.1.2 (277 + 10 * s) (by simp only [List.mem_cons, List.not_mem_nil, or_false]; omega)
        exact ⟨h9.1, by rw [h9.2]⟩
    exact q.of2 e0.1 e0.2 (fun a h1 h2 => hf.1.2 a (by simp only [List.mem_cons, List.not_mem_nil, or_false]; omega))
  refine ⟨h.ke (hf.1.j (by simp only [List.mem_cons, List.not_mem_nil, or_false]; omega)) (fun a ha => hf.1.i (by revert ha; simp only [List.mem_cons, List.not_mem_nil, or_false]; omega)) (by rw [hf.1.i (by simp only [List.mem_cons, List.not_mem_nil, or_false]; omega)]) (by rw [hf.1.i (by simp only [List.mem_cons, List.not_mem_nil, or_false]; omega)]) hs (hf.1.i (by simp only [List.mem_cons, List.not_mem_nil, or_false]; omega)) (fun a h1 h2 => hf.1.2 a (by simp only [List.mem_cons, List.not_mem_nil, or_false]; omega)) (fun X ix q => q.of (fun a h1 h2 => hf.1.2 a (by simp only [List.mem_cons, List.not_mem_nil, or_false]; omega))) hcs (h.2.2.2.2.1.of (hf.1.i (by simp only [List.mem_cons, List.not_mem_nil, or_false]; omega))) (Or.inr ⟨sa, sb, ha, hb, c2⟩) (h.2.2.2.2.2.2.1.of (by rw [hf.1.i (by simp only [List.mem_cons, List.not_mem_nil, or_false]; omega)]) (by rw [hf.1.i (by simp only [List.mem_cons, List.not_mem_nil, or_false]; omega)]) (hf.1.i (by simp only [List.mem_cons, List.not_mem_nil, or_false]; omega))) (h.2.2.2.2.2.2.2.of (by rw [hf.1.i (by simp only [List.mem_cons, List.not_mem_nil, or_false]; omega)]) (by rw [hf.1.i (by simp only [List.mem_cons, List.not_mem_nil, or_false]; omega)]) (hf.1.i (by simp only [List.mem_cons, List.not_mem_nil, or_false]; omega)) (hf.1.j (by simp only [List.mem_cons, List.not_mem_nil, or_false]; omega)) (hf.1.j (by simp only [List.mem_cons, List.not_mem_nil, or_false]; omega)) (fun _ _ => rfl) hcs), fC.of hf.1 (fun a q => ?_)⟩
  revert q
  simp only [List.mem_cons, List.not_mem_nil, or_false]
  omega
theorem CI.fO (h : CI M T L B k lf lg N pu n W sn ho hw) (hf : frO M M2) (hs : SNr M2) (c3 : wyV M2 (B 0) W) : CI M2 T L B k lf lg N pu n W sn ho hw ∧ fC M M2 :=
  ⟨h.ke (hf.1.j (by decide)) (fun a ha => hf.1.i (by revert ha; simp only [List.mem_cons, List.not_mem_nil, or_false]; omega)) (hf.2.1 3 (by decide) (by decide)) (by rw [hf.1.i (by decide)]) hs (hf.1.i (by decide)) (fun a h1 h2 => hf.1.2 a (by simp only [List.mem_cons, List.not_mem_nil, or_false]; omega)) (fun X ix q => q.of2 hf.2.2.1 (hf.2.2.2 11 (by decide)) (fun a h1 h2 => hf.1.2 a (by simp only [List.mem_cons, List.not_mem_nil, or_false]; omega))) (fun s hs X ix q => q.of (fun a h1 h2 => hf.1.2 a (by simp only [List.mem_cons, List.not_mem_nil, or_false]; omega))) (h.2.2.2.2.1.of (hf.1.i (by decide))) (h.2.2.2.2.2.1.of (hf.1.i (by decide)) (hf.1.i (by decide)) (fun _ _ => rfl)) (Or.inr c3) (h.2.2.2.2.2.2.2.of (by rw [hf.1.i (by decide)]) (by rw [hf.1.i (by decide)]) (hf.1.i (by decide)) (hf.1.j (by decide)) (hf.1.j (by decide)) (fun _ _ => rfl) (fun s hs X ix q => q.of (fun a h1 h2 => hf.1.2 a (by simp only [List.mem_cons, List.not_mem_nil, or_false]; omega)))), fC.of hf.1 (by decide)⟩
theorem CI.fG {s : Nat} (h : CI M T L B k lf lg N pu n W sn ho hw) (hs4 : s < 4) (hf : frG2 s M M2) (c4 : CSl M2 B ho hw sn s) : CI M2 T L B k lf lg N pu n W sn ho hw ∧ fC M M2 := by
  rcases hf with rfl | ⟨M1, f1, g1, f2⟩
  · exact ⟨h, fC.rf⟩
  · have hf : fr [277 + 10 * s, 270, 273, 274, 275] M M2 := (f1.mono (by simp)).tr f2.1
    have h6 : M2.2.1 270 6 = M.2.1 270 6 := by rw [f2.2.2 6 (by decide)]; exact g1 6 (by decide) (by decide)
    have hcs : ∀ t, t < 4 → ∀ X ix, CF M (277 + 10 * t) X ix → CF M2 (277 + 10 * t) X ix := fun t ht X ix q => by
      have e0 : M2.2.1 (277 + 10 * t) = M.2.1 (277 + 10 * t) ∧ M2.2.2 (277 + 10 * t) 11 = M.2.2 (277 + 10 * t) 11 := by
        by_cases c : t = s
        · rw [c, f2.2.1.1, f2.2.1.2 11 (by decide), f1.i (by simp only [List.mem_cons, List.not_mem_nil, or_false]; omega), f1.j (by simp only [List.mem_cons, List.not_mem_nil, or_false]; omega)]; exact ⟨rfl, rfl⟩
        · have h9 := hf.2 (277 + 10 * t) (by simp only [List.mem_cons, List.not_mem_nil, or_false]; omega)
          exact ⟨h9.1, by rw [h9.2]⟩
      exact q.of2 e0.1 e0.2 (fun a h1 h2 => hf.2 a (by simp only [List.mem_cons, List.not_mem_nil, or_false]; omega))
    refine ⟨h.ke (hf.j (by simp only [List.mem_cons, List.not_mem_nil, or_false]; omega)) (fun a ha => hf.i (by revert ha; simp only [List.mem_cons, List.not_mem_nil, or_false]; omega)) (by rw [hf.i (by simp only [List.mem_cons, List.not_mem_nil, or_false]; omega)]) h6 (h.1.2.2.2.of (hf.i (by simp only [List.mem_cons, List.not_mem_nil, or_false]; omega)) (hf.i (by simp only [List.mem_cons, List.not_mem_nil, or_false]; omega))) (hf.i (by simp only [List.mem_cons, List.not_mem_nil, or_false]; omega)) (fun a h1 h2 => hf.2 a (by simp only [List.mem_cons, List.not_mem_nil, or_false]; omega)) (fun X ix q => q.of (fun a h1 h2 => hf.2 a (by simp only [List.mem_cons, List.not_mem_nil, or_false]; omega))) hcs (h.2.2.2.2.1.of (hf.i (by simp only [List.mem_cons, List.not_mem_nil, or_false]; omega))) (h.2.2.2.2.2.1.of (hf.i (by simp only [List.mem_cons, List.not_mem_nil, or_false]; omega)) (hf.i (by simp only [List.mem_cons, List.not_mem_nil, or_false]; omega)) (fun _ _ => rfl)) (h.2.2.2.2.2.2.1.of (by rw [hf.i (by simp only [List.mem_cons, List.not_mem_nil, or_false]; omega)]) (by rw [hf.i (by simp only [List.mem_cons, List.not_mem_nil, or_false]; omega)]) (hf.i (by simp only [List.mem_cons, List.not_mem_nil, or_false]; omega))) (Or.inr ⟨s, hs4, c4⟩), fC.of hf (fun a q => ?_)⟩
    revert q
    simp only [List.mem_cons, List.not_mem_nil, or_false]
    omega
theorem CI.fE {s : Nat} (h : CI M T L B k lf lg N pu n W sn ho hw) (hs4 : s < 4) (hf : frE (277 + 10 * s) M M2) : CI M2 T L B k lf lg N pu n W sn ho hw ∧ fC M M2 := by
  have hcs : ∀ t, t < 4 → ∀ X ix, CF M (277 + 10 * t) X ix → CF M2 (277 + 10 * t) X ix := fun t ht X ix q => by
    have e0 : M2.2.1 (277 + 10 * t) = M.2.1 (277 + 10 * t) ∧ M2.2.2 (277 + 10 * t) 11 = M.2.2 (277 + 10 * t) 11 := by
      by_cases c : t = s
      · rw [c]; exact ⟨hf.2.1, hf.2.2 11 (by decide)⟩
      · have h9 := hf.1.2 (277 + 10 * t) (by simp only [List.mem_cons, List.not_mem_nil, or_false]; omega)
        exact ⟨h9.1, by rw [h9.2]⟩
    exact q.of2 e0.1 e0.2 (fun a h1 h2 => hf.1.2 a (by simp only [List.mem_cons, List.not_mem_nil, or_false]; omega))
  refine ⟨h.ke (hf.1.j (by simp only [List.mem_cons, List.not_mem_nil, or_false]; omega)) (fun a ha => hf.1.i (by revert ha; simp only [List.mem_cons, List.not_mem_nil, or_false]; omega)) (by rw [hf.1.i (by simp only [List.mem_cons, List.not_mem_nil, or_false]; omega)]) (by rw [hf.1.i (by simp only [List.mem_cons, List.not_mem_nil, or_false]; omega)]) (h.1.2.2.2.of (hf.1.i (by simp only [List.mem_cons, List.not_mem_nil, or_false]; omega)) (hf.1.i (by simp only [List.mem_cons, List.not_mem_nil, or_false]; omega))) (hf.1.i (by simp only [List.mem_cons, List.not_mem_nil, or_false]; omega)) (fun a h1 h2 => hf.1.2 a (by simp only [List.mem_cons, List.not_mem_nil, or_false]; omega)) (fun X ix q => q.of (fun a h1 h2 => hf.1.2 a (by simp only [List.mem_cons, List.not_mem_nil, or_false]; omega))) hcs (h.2.2.2.2.1.of (hf.1.i (by simp only [List.mem_cons, List.not_mem_nil, or_false]; omega))) (h.2.2.2.2.2.1.of (hf.1.i (by simp only [List.mem_cons, List.not_mem_nil, or_false]; omega)) (hf.1.i (by simp only [List.mem_cons, List.not_mem_nil, or_false]; omega)) (fun _ _ => rfl)) (h.2.2.2.2.2.2.1.of (by rw [hf.1.i (by simp only [List.mem_cons, List.not_mem_nil, or_false]; omega)]) (by rw [hf.1.i (by simp only [List.mem_cons, List.not_mem_nil, or_false]; omega)]) (hf.1.i (by simp only [List.mem_cons, List.not_mem_nil, or_false]; omega))) (h.2.2.2.2.2.2.2.of (by rw [hf.1.i (by simp only [List.mem_cons, List.not_mem_nil, or_false]; omega)]) (by rw [hf.1.i (by simp only [List.mem_cons, List.not_mem_nil, or_false]; omega)]) (hf.1.i (by simp only [List.mem_cons, List.not_mem_nil, or_false]; omega)) (hf.1.j (by simp only [List.mem_cons, List.not_mem_nil, or_false]; omega)) (hf.1.j (by simp only [List.mem_cons, List.not_mem_nil, or_false]; omega)) (fun _ _ => rfl) hcs), fC.of hf.1 (fun a q => ?_)⟩
  revert q
  simp only [List.mem_cons, List.not_mem_nil, or_false]
  omega
end CIK
theorem kC_piece {M : pM} {T : Nat → Int} {L : Nat} {B : Nat → bS} {k : Nat} {lf lg : Nat → Int} {N pu n : Nat} {W : Nat → Int} {sn : Nat} {ho : Nat → Nat} {hw : Nat → Int} {x y : Int} (hS : sOk M.1) (hA : AI T L B k lf N ho) (hI : CI M T L B k lf lg N pu n W sn ho hw) (hx : inR x) (hy : inR y) : Ct 340 0 0 yX11_piece [.ref 2, .int (iI x), .int (iI y)] M (fun v M2 => v = some (.int (iI (if 0 ≤ x ∧ x < 13 ∧ 0 ≤ y ∧ y < 12 then (B 0).1.1.1 (13 * y + x).toNat else -1))) ∧ CI M2 T L B k lf lg N pu n W sn ho hw ∧ fC M M2) := by
  obtain ⟨ix, hC⟩ := hI.2.1.1
  refine Ct_le (d := 2) (by decide) (Ct_mono ?_ (c_X11_piece (d := 0) hS hx hy rfl hC))
  rintro _ M2 ⟨rfl, h⟩
  exact ⟨rfl, hI.rf h⟩
theorem kC_shows {M : pM} {T : Nat → Int} {L : Nat} {B : Nat → bS} {k : Nat} {lf lg : Nat → Int} {N pu n : Nat} {W : Nat → Int} {sn : Nat} {ho : Nat → Nat} {hw : Nat → Int} {x y : Int} (hS : sOk M.1) (hA : AI T L B k lf N ho) (hI : CI M T L B k lf lg N pu n W sn ho hw) (hx : inR x) (hy : inR y) : Ct 340 0 0 yX11_shows [.ref 2, .int (iI x), .int (iI y)] M (fun v M2 => v = some (.int (iI (if 0 ≤ x ∧ x < 13 ∧ 0 ≤ y ∧ y < 12 then shV (B 0) (13 * y + x).toNat else -1))) ∧ CI M2 T L B k lf lg N pu n W sn ho hw ∧ fC M M2) := by
  obtain ⟨ix, hC⟩ := hI.2.1.1
  refine Ct_le (d := 3) (by decide) (Ct_mono ?_ (c_X11_shows (d := 0) hS hx hy rfl hC hA.2.1.1.2))
  rintro _ M2 ⟨rfl, h⟩
  exact ⟨rfl, hI.rf h⟩
theorem kC_train {M : pM} {T : Nat → Int} {L : Nat} {B : Nat → bS} {k : Nat} {lf lg : Nat → Int} {N pu n : Nat} {W : Nat → Int} {sn : Nat} {ho : Nat → Nat} {hw : Nat → Int} {x y : Int} (hS : sOk M.1) (hA : AI T L B k lf N ho) (hI : CI M T L B k lf lg N pu n W sn ho hw) (hx : inR x) (hy : inR y) : Ct 340 0 0 yX11_train [.ref 2, .int (iI x), .int (iI y)] M (fun v M2 => v = some (.int (iI (if 0 ≤ x ∧ x < 13 ∧ 0 ≤ y ∧ y < 12 then bT (B 0).1 (13 * y + x).toNat else -1))) ∧ CI M2 T L B k lf lg N pu n W sn ho hw ∧ fC M M2) := by
  obtain ⟨ix, hC⟩ := hI.2.1.1
  refine Ct_le (d := 2) (by decide) (Ct_mono ?_ (c_X11_train (d := 0) hS hx hy rfl hC))
  rintro _ M2 ⟨rfl, h⟩
  exact ⟨rfl, hI.rf h⟩
theorem kC_lever {M : pM} {T : Nat → Int} {L : Nat} {B : Nat → bS} {k : Nat} {lf lg : Nat → Int} {N pu n : Nat} {W : Nat → Int} {sn : Nat} {ho : Nat → Nat} {hw : Nat → Int} {z : Int} (hS : sOk M.1) (hA : AI T L B k lf N ho) (hI : CI M T L B k lf lg N pu n W sn ho hw) (hz : inR z) : Ct 340 0 0 yX11_lever [.ref 2, .int (iI z)] M (fun v M2 => v = some (.int (iI (if 0 ≤ z ∧ z < 13 then (B 0).1.2.2.2.1 z.toNat else -1))) ∧ CI M2 T L B k lf lg N pu n W sn ho hw ∧ fC M M2) := by
  obtain ⟨ix, hC⟩ := hI.2.1.1
  refine Ct_le (d := 1) (by decide) (Ct_mono ?_ (c_X11_lever (d := 0) hS hz hC))
  rintro _ M2 ⟨rfl, h⟩
  exact ⟨rfl, hI.rf h⟩
theorem kC_hopper {M : pM} {T : Nat → Int} {L : Nat} {B : Nat → bS} {k : Nat} {lf lg : Nat → Int} {N pu n : Nat} {W : Nat → Int} {sn : Nat} {ho : Nat → Nat} {hw : Nat → Int} {h : Nat} {w : Int} (hS : sOk M.1) (hA : AI T L B k lf N ho) (hI : CI M T L B k lf lg N pu n W sn ho hw) (hh : h < 4) (hw2 : 0 ≤ w ∧ w ≤ 2) : Ct 340 0 0 yX11_hopper [.ref 2, .int (iI ((h : Nat) : Int)), .int (iI w)] M (fun v M2 => v = some (.int (iI (if w = 0 then (((B 0).1.2.2.1 h : Nat) : Int) else if w = 1 then (B 0).1.2.1 h else (B 0).1.2.2.2.2 h))) ∧ CI M2 T L B k lf lg N pu n W sn ho hw ∧ fC M M2) := by
  obtain ⟨ix, hC⟩ := hI.2.1.1
  refine Ct_le (d := 2) (by decide) (Ct_mono ?_ (c_X11_hopper (d := 0) hS hh hw2 hC))
  rintro _ M2 ⟨rfl, h⟩
  exact ⟨rfl, hI.rf h⟩
theorem kC_logged {M : pM} {T : Nat → Int} {L : Nat} {B : Nat → bS} {k : Nat} {lf lg : Nat → Int} {N pu n : Nat} {W : Nat → Int} {sn : Nat} {ho : Nat → Nat} {hw : Nat → Int} {z : Int} (hS : sOk M.1) (hA : AI T L B k lf N ho) (hI : CI M T L B k lf lg N pu n W sn ho hw) (hz : inR z) : Ct 340 0 0 yX11_logged [.ref 2, .int (iI z)] M (fun v M2 => v = some (.int (iI (if 0 ≤ z ∧ z < 100 ∧ z < ((N : Nat) : Int) then lg ((((N : Nat) : Int) - 1 - z) % 100).toNat else -1))) ∧ CI M2 T L B k lf lg N pu n W sn ho hw ∧ fC M M2) := by
  refine Ct_le (d := 2) (by decide) (Ct_mono ?_ (c_X11_logged (d := 0) (x := (B 0, lg, N)) hS hz hI.2.2.2.1.1 (by have := hA.1.2.2.2; show N ≤ _; omega)))
  rintro _ M2 ⟨rfl, h⟩
  exact ⟨rfl, hI.rf h⟩
theorem kC_count {M : pM} {T : Nat → Int} {L : Nat} {B : Nat → bS} {k : Nat} {lf lg : Nat → Int} {N pu n : Nat} {W : Nat → Int} {sn : Nat} {ho : Nat → Nat} {hw : Nat → Int} {z : Int} (hS : sOk M.1) (hA : AI T L B k lf N ho) (hI : CI M T L B k lf lg N pu n W sn ho hw) (hz : inR z) : Ct 340 0 0 yX11_count [.ref 2, .int (iI z)] M (fun v M2 => v = some (.int (iI (cnV (B 0) N k L n sn pu z))) ∧ CI M2 T L B k lf lg N pu n W sn ho hw ∧ fC M M2) := by
  obtain ⟨ix, hC⟩ := hI.2.1.1
  obtain ⟨f, hP⟩ := hI.2.1.2.1
  refine Ct_le (d := 3) (by decide) (Ct_mono ?_ (c_X11_count (d := 0) (n := N) (k := k) (L := L) (w := n) (si := sn) (pu := pu) hS hz hC hA.2.1.1.1 hA.2.1.1.2 hI.2.2.2.1.1.1 hP.1.2.1 hI.1.2.1 hI.2.2.2.1.2.1.1 hI.2.2.2.1.2.2.1 hI.2.1.2.2))
  rintro _ M2 ⟨rfl, h⟩
  exact ⟨rfl, hI.rf h⟩
theorem kC_tries {M : pM} {T : Nat → Int} {L : Nat} {B : Nat → bS} {k : Nat} {lf lg : Nat → Int} {N pu n : Nat} {W : Nat → Int} {sn : Nat} {ho : Nat → Nat} {hw : Nat → Int} {h : Nat} (hS : sOk M.1) (hA : AI T L B k lf N ho) (hI : CI M T L B k lf lg N pu n W sn ho hw) (hh : h < 4) : Ct 340 0 0 yX11_tries [.ref 2, .int (iI ((h : Nat) : Int))] M (fun v M2 => v = some (.int (iI ((bH (B 0).1 (-2) (B 0).2 h).1))) ∧ CI M2 T L B k lf lg N pu n W sn ho hw ∧ fC M M2) := by
  obtain ⟨ix, hC⟩ := hI.2.1.1
  refine Ct_le (d := 4) (by decide) (Ct_mono ?_ (c_X11_tries (d := 0) hS hh hC hA.2.1.1.1 hA.2.1.1.2))
  rintro _ M2 ⟨rfl, -, a2, h⟩
  exact ⟨rfl, hI.fJ h⟩
theorem kC_way {M : pM} {T : Nat → Int} {L : Nat} {B : Nat → bS} {k : Nat} {lf lg : Nat → Int} {N pu n : Nat} {W : Nat → Int} {sn : Nat} {ho : Nat → Nat} {hw : Nat → Int}  (hS : sOk M.1) (hA : AI T L B k lf N ho) (hI : CI M T L B k lf lg N pu n W sn ho hw)  : Ct 340 0 0 yX11_way [.ref 2] M (fun v M2 => v = some (.int (iI ((wyF (B 0).1 W (B 0).2).1))) ∧ CI M2 T L B k lf lg N pu n W sn ho hw ∧ fC M M2) := by
  obtain ⟨ix, hC⟩ := hI.2.1.1
  refine Ct_le (d := 6) (by decide) (Ct_mono ?_ (c_X11_way (d := 0) (n := n) (W := W) hS hC hA.2.1.1.1 hA.2.1.1.2 hI.1.2.2.2 hI.2.2.2.1.2.1.1 hI.2.2.2.1.2.1.2 hI.2.2.2.2.2.2.1))
  rintro _ M2 ⟨rfl, h1, h2, h3⟩
  exact ⟨rfl, hI.fO h2 h3 h1⟩
theorem kC_step {M : pM} {T : Nat → Int} {L : Nat} {B : Nat → bS} {k : Nat} {lf lg : Nat → Int} {N pu n : Nat} {W : Nat → Int} {sn : Nat} {ho : Nat → Nat} {hw : Nat → Int} {i : Int} (hS : sOk M.1) (hA : AI T L B k lf N ho) (hI : CI M T L B k lf lg N pu n W sn ho hw) (hi : inR i) : Ct 340 0 0 yX11_step [.ref 2, .int (iI i)] M (fun v M2 => v = some (.int (iI (if 0 ≤ i ∧ i < (wyF (B 0).1 W (B 0).2).1 then (wyF (B 0).1 W (B 0).2).2 i.toNat else -1))) ∧ CI M2 T L B k lf lg N pu n W sn ho hw ∧ fC M M2) := by
  obtain ⟨ix, hC⟩ := hI.2.1.1
  refine Ct_le (d := 6) (by decide) (Ct_mono ?_ (c_X11_step (d := 0) (n := n) (W := W) hS hC hA.2.1.1.1 hA.2.1.1.2 hI.1.2.2.2 hI.2.2.2.1.2.1.1 hI.2.2.2.1.2.1.2 hI.2.2.2.2.2.2.1 hi))
  rintro _ M2 ⟨rfl, h1, h2, h3⟩
  exact ⟨rfl, hI.fO h2 h3 h1⟩
theorem kC_alike {M : pM} {T : Nat → Int} {L : Nat} {B : Nat → bS} {k : Nat} {lf lg : Nat → Int} {N pu n : Nat} {W : Nat → Int} {sn : Nat} {ho : Nat → Nat} {hw : Nat → Int} {a b : Int} (hS : sOk M.1) (hA : AI T L B k lf N ho) (hI : CI M T L B k lf lg N pu n W sn ho hw) (ha : inR a) (hb : inR b) : Ct 340 0 0 yX11_alike [.ref 2, .int (iI a), .int (iI b)] M (fun v M2 => v = some (.int (iI (if ldP lf a ∧ ldP lf b then (tlR (B (1 + a.toNat)) (B (1 + b.toNat)) a.toNat b.toNat).1 else -1))) ∧ CI M2 T L B k lf lg N pu n W sn ho hw ∧ fC M M2) := by
  refine Ct_le (d := 7) (by decide) (Ct_mono ?_ (c_X11_alike (d := 0) (lf := lf) hS (fun s hs => ⟨hI.2.2.1.1 s hs, hA.2.2.1 s hs⟩) hI.2.2.1.2 (fun s hs hl => hA.2.2.2.1 s hs hl) hI.1.2.2.2 hI.2.2.2.2.2.1 ha hb))
  rintro _ M2 (⟨c, rfl, h⟩ | ⟨c, rfl, h⟩)
  · rw [if_neg c]; exact ⟨rfl, hI.rf h⟩
  · rw [if_pos c]
    have c1 := c.1.1
    have c2 := c.2.1
    rcases h with h | ⟨h1, h2, h3⟩
    · exact ⟨rfl, hI.rf h⟩
    · exact ⟨rfl, hI.fX (by omega) (by omega) h2 h3 h1⟩
theorem kC_telling {M : pM} {T : Nat → Int} {L : Nat} {B : Nat → bS} {k : Nat} {lf lg : Nat → Int} {N pu n : Nat} {W : Nat → Int} {sn : Nat} {ho : Nat → Nat} {hw : Nat → Int} {a b i : Int} (hS : sOk M.1) (hA : AI T L B k lf N ho) (hI : CI M T L B k lf lg N pu n W sn ho hw) (ha : inR a) (hb : inR b) (hi : inR i) : Ct 340 0 0 yX11_telling [.ref 2, .int (iI a), .int (iI b), .int (iI i)] M (fun v M2 => v = some (.int (iI (if ldP lf a ∧ ldP lf b then (if 0 ≤ i ∧ i < (tlR (B (1 + a.toNat)) (B (1 + b.toNat)) a.toNat b.toNat).1 then (tlR (B (1 + a.toNat)) (B (1 + b.toNat)) a.toNat b.toNat).2 i.toNat else -1) else -1))) ∧ CI M2 T L B k lf lg N pu n W sn ho hw ∧ fC M M2) := by
  refine Ct_le (d := 7) (by decide) (Ct_mono ?_ (c_X11_telling (d := 0) (lf := lf) hS (fun s hs => ⟨hI.2.2.1.1 s hs, hA.2.2.1 s hs⟩) hI.2.2.1.2 (fun s hs hl => hA.2.2.2.1 s hs hl) hI.1.2.2.2 hI.2.2.2.2.2.1 ha hb hi))
  rintro _ M2 (⟨c, rfl, h⟩ | ⟨c, rfl, h⟩)
  · rw [if_neg c]; exact ⟨rfl, hI.rf h⟩
  · rw [if_pos c]
    have c1 := c.1.1
    have c2 := c.2.1
    rcases h with h | ⟨h1, h2, h3⟩
    · exact ⟨rfl, hI.rf h⟩
    · exact ⟨rfl, hI.fX (by omega) (by omega) h2 h3 h1⟩
theorem kC_suspect {M : pM} {T : Nat → Int} {L : Nat} {B : Nat → bS} {k : Nat} {lf lg : Nat → Int} {N pu n : Nat} {W : Nat → Int} {sn : Nat} {ho : Nat → Nat} {hw : Nat → Int} {z i : Int} (hS : sOk M.1) (hA : AI T L B k lf N ho) (hI : CI M T L B k lf lg N pu n W sn ho hw) (hz : inR z) (hi : inR i) : Ct 340 0 0 yX11_suspect [.ref 2, .int (iI z), .int (iI i)] M (fun v M2 => v = some (.int (iI (if ldP lf z then (if 0 ≤ i ∧ i < (((sS9 (B (1 + z.toNat)) ho hw sn).1 : Nat) : Int) then ((sS9 (B (1 + z.toNat)) ho hw sn).2 i.toNat).1 else -1) else -1))) ∧ CI M2 T L B k lf lg N pu n W sn ho hw ∧ fC M M2) := by
  by_cases c : ldP lf z
  · obtain ⟨s, rfl⟩ : ∃ s : Nat, z = (s : Int) := ⟨z.toNat, by have := c.1; omega⟩
    have hs4 : s < 4 := by have := c.1; omega
    have l1 : lf s = 1 := by have := c.2; rw [Int.toNat_natCast] at this; exact this
    obtain ⟨ix, hC⟩ := hI.2.2.1.2 s hs4 l1
    rw [if_pos c, Int.toNat_natCast]
    refine Ct_le (d := 6) (by decide) (Ct_mono ?_ (c_X11_suspectY (d := 0) (lf := lf) hS (fun s hs => ⟨hI.2.2.1.1 s hs, hA.2.2.1 s hs⟩) hs4 l1 hC (hA.2.2.2.1 s hs4 l1) hI.2.2.2.1.2.2 hA.2.2.2.2 hI.2.2.2.2.2.2.2 hi))
    rintro _ M2 ⟨rfl, h1, h2⟩
    exact ⟨rfl, hI.fG hs4 h2 h1⟩
  · rw [if_neg c]
    refine Ct_le (d := 2) (by decide) (Ct_mono ?_ (c_X11_suspectN (d := 0) (lf := lf) hS (fun s hs => ⟨hI.2.2.1.1 s hs, hA.2.2.1 s hs⟩) hz c))
    rintro _ M2 ⟨rfl, h⟩
    exact ⟨rfl, hI.rf h⟩
theorem kC_test {M : pM} {T : Nat → Int} {L : Nat} {B : Nat → bS} {k : Nat} {lf lg : Nat → Int} {N pu n : Nat} {W : Nat → Int} {sn : Nat} {ho : Nat → Nat} {hw : Nat → Int} {z : Int} (hS : sOk M.1) (hA : AI T L B k lf N ho) (hI : CI M T L B k lf lg N pu n W sn ho hw) (hz : inR z) : Ct 340 0 0 yX11_test [.ref 2, .int (iI z)] M (fun v M2 => v = some (.int (iI (if ldP lf z then sBst (B (1 + z.toNat)).1 (sS9 (B (1 + z.toNat)) ho hw sn) else -1))) ∧ CI M2 T L B k lf lg N pu n W sn ho hw ∧ fC M M2) := by
  by_cases c : ldP lf z
  · obtain ⟨s, rfl⟩ : ∃ s : Nat, z = (s : Int) := ⟨z.toNat, by have := c.1; omega⟩
    have hs4 : s < 4 := by have := c.1; omega
    have l1 : lf s = 1 := by have := c.2; rw [Int.toNat_natCast] at this; exact this
    obtain ⟨ix, hC⟩ := hI.2.2.1.2 s hs4 l1
    rw [if_pos c, Int.toNat_natCast]
    refine Ct_le (d := 6) (by decide) (Ct_mono ?_ (c_X11_testY (d := 0) (lf := lf) hS (fun s hs => ⟨hI.2.2.1.1 s hs, hA.2.2.1 s hs⟩) hs4 l1 hC (hA.2.2.2.1 s hs4 l1) hI.2.2.2.1.2.2 hA.2.2.2.2 hI.2.2.2.2.2.2.2))
    rintro _ M2 ⟨rfl, M3, h1, h2, h3⟩
    obtain ⟨g1, g2⟩ := hI.fG hs4 h2 h1
    obtain ⟨g3, g4⟩ := g1.fE hs4 h3
    exact ⟨rfl, g3, g2.tr g4⟩
  · rw [if_neg c]
    refine Ct_le (d := 2) (by decide) (Ct_mono ?_ (c_X11_testN (d := 0) (i := 0) (lf := lf) hS (fun s hs => ⟨hI.2.2.1.1 s hs, hA.2.2.1 s hs⟩) hz c))
    rintro _ M2 ⟨rfl, h⟩
    exact ⟨rfl, hI.rf h⟩
theorem kC_round {M : pM} {T : Nat → Int} {L : Nat} {B : Nat → bS} {k : Nat} {lf lg : Nat → Int} {N pu n : Nat} {W : Nat → Int} {sn : Nat} {ho : Nat → Nat} {hw : Nat → Int} {z w : Int} (hS : sOk M.1) (hA : AI T L B k lf N ho) (hI : CI M T L B k lf lg N pu n W sn ho hw) (hz : inR z) (hw2 : inR w) : Ct 340 0 0 yX11_round [.ref 2, .int (iI z), .int (iI w)] M (fun v M2 => ∃ y, v = some (.int (iI y)) ∧ rdV (B 0) z w y ∧ CI M2 T L B k lf lg N pu n W sn ho hw ∧ fC M M2) := by
  by_cases c : (0 ≤ z ∧ z < 4) ∧ 0 ≤ w ∧ w ≤ 1
  · obtain ⟨h, rfl⟩ : ∃ h : Nat, z = (h : Int) := ⟨z.toNat, by omega⟩
    obtain ⟨ix, hC⟩ := hI.2.1.1
    refine Ct_le (d := 5) (by decide) (Ct_mono ?_ (c_X11_roundY (d := 0) hS (by omega) c.2 hC hA.2.1.1.1 hA.2.1.1.2 hI.1.2.2.2 hI.2.2.2.2.1))
    rintro _ M2 ⟨a, b, hr, rfl, h1, h2, h3⟩
    exact ⟨_, rfl, Or.inl ⟨c, a, b, by rw [Int.toNat_natCast]; exact hr, rfl⟩, hI.fY h2 h3 h1⟩
  · refine Ct_le (d := 2) (by decide) (Ct_mono ?_ (c_X11_roundN (d := 0) hS c hz hw2))
    rintro _ M2 ⟨rfl, h⟩
    exact ⟨_, rfl, Or.inr ⟨c, rfl⟩, hI.rf h⟩
