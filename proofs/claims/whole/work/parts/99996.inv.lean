/-! between the calls: what the class holds (CI), what the model holds (MI), what is sure of both (AI) -/
theorem cWd.of {M M2 : pM} (h : cWd M) (e : M2.2.2 4 = M.2.2 4) : cWd M2 := fun k h1 h2 => by rw [e]; exact h k h1 h2
theorem mWd.of {M M2 : pM} (h : mWd M) (e : M2.2.2 322 = M.2.2 322) : mWd M2 := fun k h1 => by rw [e]; exact h k h1
theorem SNr.of {M M2 : pM} (h : SNr M) (e1 : M2.2.1 261 = M.2.1 261) (e2 : M2.2.1 262 = M.2.1 262) : SNr M2 := by
  unfold SNr
  rw [e1, e2]
  exact h
theorem CF.of2 {M M2 : pM} {b : Nat} {X : bS} {ix : Nat → Nat} (h : CF M b X ix) (h0 : M2.2.1 b = M.2.1 b) (h1 : M2.2.2 b 11 = M.2.2 b 11) (hf : ∀ a, b + 1 ≤ a → a ≤ b + 9 → M2.2.1 a = M.2.1 a ∧ M2.2.2 a = M.2.2 a) : CF M2 b X ix := by
  obtain ⟨a1, a2, a3, a4, a5⟩ := h
  exact ⟨a1.of (fun k k1 k2 => hf (b + k) (by omega) (by omega)), by rw [h1]; exact a2, a3, by rw [h0]; exact a4, by rw [h0]; exact a5⟩
theorem CLg.of {M M2 : pM} {x : rnS} (h : CLg M x) (e1 : M2.2.1 254 1 = M.2.1 254 1) (e2 : M2.2.1 255 = M.2.1 255) : CLg M2 x := ⟨by rw [e1]; exact h.1, fun j hj => by rw [e2]; exact h.2 j hj⟩
theorem CLg.x {M : pM} {x y : rnS} (h : CLg M x) (e : y.2 = x.2) : CLg M y := ⟨by rw [e]; exact h.1, fun j hj => by rw [e]; exact h.2 j hj⟩
theorem MLg.of {M M2 : pM} {x : rnS} (h : MLg M x) (e1 : M2.2.1 317 32 = M.2.1 317 32) (e2 : M2.2.1 317 31 = M.2.1 317 31) (e3 : M2.2.1 337 = M.2.1 337) : MLg M2 x := ⟨by rw [e1]; exact h.1, by rw [e2]; exact h.2.1, fun j hj => by rw [e3]; exact h.2.2 j hj⟩
theorem MLg.x {M : pM} {x y : rnS} (h : MLg M x) (e : y.2 = x.2) : MLg M y := ⟨by rw [e]; exact h.1, by rw [e]; exact h.2.1, fun j hj => by rw [e]; exact h.2.2 j hj⟩
theorem CWs.of {M M2 : pM} {n : Nat} {W : Nat → Int} (h : CWs M n W) (e1 : M2.2.1 266 3 = M.2.1 266 3) (e2 : M2.2.1 267 = M.2.1 267) (e3 : M2.2.1 268 = M.2.1 268) : CWs M2 n W := ⟨by rw [e1]; exact h.1, by rw [e2, e3]; exact h.2⟩
theorem MWs.of {M M2 : pM} {n : Nat} {W : Nat → Int} (h : MWs M n W) (e1 : M2.2.1 317 45 = M.2.1 317 45) (e2 : M2.2.1 345 = M.2.1 345) (e3 : M2.2.1 346 = M.2.1 346) : MWs M2 n W := ⟨by rw [e1]; exact h.1, by rw [e2, e3]; exact h.2⟩
theorem sgC.of {M M2 : pM} {n : Nat} {ho : Nat → Nat} {hw : Nat → Int} (h : sgC M n ho hw) (e1 : M2.2.1 270 6 = M.2.1 270 6) (e2 : M2.2.1 271 = M.2.1 271) (e3 : M2.2.1 272 = M.2.1 272) : sgC M2 n ho hw := ⟨by rw [e1]; exact h.1, h.2.1, by rw [e2, e3]; exact h.2.2⟩
theorem sgM.of {M M2 : pM} {n : Nat} {ho : Nat → Nat} {hw : Nat → Int} (h : sgM M n ho hw) (e1 : M2.2.1 317 48 = M.2.1 317 48) (e2 : M2.2.1 347 = M.2.1 347) (e3 : M2.2.1 348 = M.2.1 348) : sgM M2 n ho hw := ⟨by rw [e1]; exact h.1, h.2.1, by rw [e2, e3]; exact h.2.2⟩
theorem CRd.of {M M2 : pM} {X : bS} (h : CRd M X) (e : M2.2.1 263 = M.2.1 263) : CRd M2 X := by
  unfold CRd
  rw [e]
  exact h
theorem tlV.of {M M2 : pM} {B B2 : Nat → bS} {sa sb : Nat} (h : tlV M B sa sb) (e1 : M2.2.1 264 = M.2.1 264) (e2 : M2.2.1 265 = M.2.1 265) (b1 : B2 (1 + sa) = B (1 + sa)) (b2 : B2 (1 + sb) = B (1 + sb)) : tlV M2 B2 sa sb := by
  unfold tlV
  rw [e1, e2, b1, b2]
  exact h
theorem CTl.of {M M2 : pM} {B B2 : Nat → bS} (h : CTl M B) (e1 : M2.2.1 264 = M.2.1 264) (e2 : M2.2.1 265 = M.2.1 265) (eb : ∀ s, s < 4 → B2 (1 + s) = B (1 + s)) : CTl M2 B2 := by
  rcases h with h | ⟨sa, sb, h1, h2, h3⟩
  · exact Or.inl (by rw [e1]; exact h)
  · exact Or.inr ⟨sa, sb, h1, h2, h3.of e1 e2 (eb sa h1) (eb sb h2)⟩
theorem CWy.of {M M2 : pM} {X : bS} {W : Nat → Int} (h : CWy M X W) (e1 : M2.2.1 266 4 = M.2.1 266 4) (e2 : M2.2.1 266 5 = M.2.1 266 5) (e3 : M2.2.1 269 = M.2.1 269) : CWy M2 X W := by
  rcases h with h | h
  · exact Or.inl (by rw [e1]; exact h)
  · refine Or.inr ?_
    unfold wyV
    rw [e1, e2, e3]
    exact h
theorem CSl.of {M M2 : pM} {B B2 : Nat → bS} {ho : Nat → Nat} {hw : Nat → Int} {n s : Nat} (h : CSl M B ho hw n s) (e8 : M2.2.1 270 8 = M.2.1 270 8) (e7 : M2.2.1 270 7 = M.2.1 270 7) (e3 : M2.2.1 273 = M.2.1 273) (e4 : M2.2.2 274 = M.2.2 274) (e5 : M2.2.2 275 = M.2.2 275) (eb : B2 (1 + s) = B (1 + s)) (hc : ∀ X ix, CF M (277 + 10 * s) X ix → CF M2 (277 + 10 * s) X ix) : CSl M2 B2 ho hw n s := by
  obtain ⟨h1, ix, h2, h3⟩ := h
  refine ⟨by rw [e8]; exact h1, ix, ?_, ?_⟩
  · rw [eb]; exact hc _ _ h2
  · rw [eb]; exact h3.of e7 e3 e4 e5
theorem CSg.of {M M2 : pM} {B B2 : Nat → bS} {ho : Nat → Nat} {hw : Nat → Int} {n : Nat} (h : CSg M B ho hw n) (e8 : M2.2.1 270 8 = M.2.1 270 8) (e7 : M2.2.1 270 7 = M.2.1 270 7) (e3 : M2.2.1 273 = M.2.1 273) (e4 : M2.2.2 274 = M.2.2 274) (e5 : M2.2.2 275 = M.2.2 275) (eb : ∀ s, s < 4 → B2 (1 + s) = B (1 + s)) (hc : ∀ s, s < 4 → ∀ X ix, CF M (277 + 10 * s) X ix → CF M2 (277 + 10 * s) X ix) : CSg M2 B2 ho hw n := by
  rcases h with h | ⟨s, h1, h2⟩
  · exact Or.inl (by rw [e8]; exact h)
  · exact Or.inr ⟨s, h1, h2.of e8 e7 e3 e4 e5 (eb s h1) (hc s h1)⟩
def CI (M : pM) (T : Nat → Int) (L : Nat) (B : Nat → bS) (k : Nat) (lf lg : Nat → Int) (N pu n : Nat) (W : Nat → Int) (sn : Nat) (ho : Nat → Nat) (hw : Nat → Int) : Prop :=
  (cWd M ∧ M.2.1 3 5 = (L : Int) ∧ M.2.1 5 = T ∧ SNr M) ∧
  ((∃ ix, CF M 19 (B 0) ix) ∧ (∃ f, CPa M B k f) ∧ M.2.1 29 15 = (pu : Int)) ∧
  ((∀ s, s < 4 → M.2.1 253 s = lf s) ∧ ∀ s, s < 4 → lf s = 1 → ∃ ix, CF M (277 + 10 * s) (B (1 + s)) ix) ∧
  (CLg M (B 0, lg, N) ∧ CWs M n W ∧ sgC M sn ho hw) ∧
  CRd M (B 0) ∧ CTl M B ∧ CWy M (B 0) W ∧ CSg M B ho hw sn
def MI (M : pM) (T : Nat → Int) (L : Nat) (B : Nat → bS) (k : Nat) (lf lg : Nat → Int) (N pu n : Nat) (W : Nat → Int) (sn : Nat) (ho : Nat → Nat) (hw : Nat → Int) : Prop :=
  (mWd M ∧ M.2.1 317 2 = (L : Int) ∧ M.2.1 318 = T) ∧ (MB M B ∧ M.2.1 317 28 = (k : Int) ∧ M.2.1 317 27 = (pu : Int)) ∧ (∀ s, s < 4 → M.2.1 343 s = lf s) ∧ MLg M (B 0, lg, N) ∧ MWs M n W ∧ sgM M sn ho hw
def okB (X : bS) : Prop := bOk X.1 ∧ bK X.1 X.2
def AI (T : Nat → Int) (L : Nat) (B : Nat → bS) (k : Nat) (lf : Nat → Int) (N : Nat) (ho : Nat → Nat) : Prop :=
  (L ≤ 1000 ∧ (∀ j, j < L → 0 ≤ T j ∧ T j ≤ 126) ∧ k ≤ 20 ∧ N ≤ 1999999000) ∧ (okB (B 0) ∧ (∀ i, i < k → okB (B (5 + i)))) ∧ (∀ s, s < 4 → 0 ≤ lf s ∧ lf s ≤ 1) ∧ (∀ s, s < 4 → lf s = 1 → okB (B (1 + s))) ∧ ∀ i, ho i < 4
/-- only the class's cells change; only the model's -/
def fC (M M2 : pM) : Prop := M2.1 = M.1 ∧ ∀ a, a < 2 ∨ 317 ≤ a → M2.2.1 a = M.2.1 a ∧ M2.2.2 a = M.2.2 a
def fM (M M2 : pM) : Prop := M2.1 = M.1 ∧ ∀ a, a < 317 ∨ 351 ≤ a → M2.2.1 a = M.2.1 a ∧ M2.2.2 a = M.2.2 a
theorem fC.rf {M : pM} : fC M M := ⟨rfl, fun _ _ => ⟨rfl, rfl⟩⟩
theorem fM.rf {M : pM} : fM M M := ⟨rfl, fun _ _ => ⟨rfl, rfl⟩⟩
theorem fC.tr {M M1 M2 : pM} (h : fC M M1) (h2 : fC M1 M2) : fC M M2 := ⟨h2.1.trans h.1, fun a ha => ⟨(h2.2 a ha).1.trans (h.2 a ha).1, (h2.2 a ha).2.trans (h.2 a ha).2⟩⟩
theorem fM.tr {M M1 M2 : pM} (h : fM M M1) (h2 : fM M1 M2) : fM M M2 := ⟨h2.1.trans h.1, fun a ha => ⟨(h2.2 a ha).1.trans (h.2 a ha).1, (h2.2 a ha).2.trans (h.2 a ha).2⟩⟩
theorem fC.of {l : List Nat} {M M2 : pM} (h : fr l M M2) (hl : ∀ a ∈ l, 2 ≤ a ∧ a < 317) : fC M M2 := ⟨h.1, fun a ha => h.2 a (fun q => by have := hl a q; omega)⟩
theorem fM.of {l : List Nat} {M M2 : pM} (h : fr l M M2) (hl : ∀ a ∈ l, 317 ≤ a ∧ a < 351) : fM M M2 := ⟨h.1, fun a ha => h.2 a (fun q => by have := hl a q; omega)⟩
theorem fM.z {M : pM} {k : Nat} {z : Int} : fM M (pI M 317 k z) := fM.of (l := [317]) (fr.rf.I (by decide)) (by decide)
section INV9
variable {M M2 : pM} {T : Nat → Int} {L : Nat} {B B2 : Nat → bS} {k : Nat} {lf lg : Nat → Int} {N pu n : Nat} {W : Nat → Int} {sn : Nat} {ho : Nat → Nat} {hw : Nat → Int}
theorem CI.of (h : CI M T L B k lf lg N pu n W sn ho hw) (e : ∀ a, 2 ≤ a → a < 317 → M2.2.1 a = M.2.1 a ∧ M2.2.2 a = M.2.2 a) (eb : ∀ i, i < 25 → B2 i = B i) : CI M2 T L B2 k lf lg N pu n W sn ho hw := by
  obtain ⟨⟨a1, a2, a3, a4⟩, ⟨⟨ix, b1⟩, ⟨f, b2⟩, b3⟩, ⟨c1, c2⟩, ⟨d1, d2, d3⟩, e1, e2, e3, e4⟩ := h
  have i := fun a h1 h2 => (e a h1 h2).1
  have j := fun a h1 h2 => (e a h1 h2).2
  have e0 : B2 0 = B 0 := eb 0 (by decide)
  refine ⟨⟨a1.of (j _ (by decide) (by decide)), by rw [i 3 (by decide) (by decide)]; exact a2, by rw [i 5 (by decide) (by decide)]; exact a3, a4.of (i _ (by decide) (by decide)) (i _ (by decide) (by decide))⟩,
    ⟨⟨ix, by rw [e0]; exact b1.of (fun a h1 h2 => e a (by omega) (by omega))⟩, ⟨f, (b2.of (i _ (by decide) (by decide)) (fun a h1 h2 => e a (by omega) (by omega))).eq (fun q h1 h2 => eb q h2)⟩, by rw [i 29 (by decide) (by decide)]; exact b3⟩,
    ⟨fun s hs => by rw [i 253 (by decide) (by decide)]; exact c1 s hs, fun s hs hl => ?_⟩,
    ⟨CLg.x (d1.of (by rw [i 254 (by decide) (by decide)]) (i _ (by decide) (by decide))) rfl, d2.of (by rw [i 266 (by decide) (by decide)]) (i _ (by decide) (by decide)) (i _ (by decide) (by decide)), d3.of (by rw [i 270 (by decide) (by decide)]) (i _ (by decide) (by decide)) (i _ (by decide) (by decide))⟩,
    by rw [e0]; exact e1.of (i _ (by decide) (by decide)), e2.of (i _ (by decide) (by decide)) (i _ (by decide) (by decide)) (fun s hs => eb _ (by omega)), by rw [e0]; exact e3.of (by rw [i 266 (by decide) (by decide)]) (by rw [i 266 (by decide) (by decide)]) (i _ (by decide) (by decide)), ?_⟩
  · obtain ⟨iy, h9⟩ := c2 s hs hl
    exact ⟨iy, by rw [eb (1 + s) (by omega)]; exact h9.of (fun a h1 h2 => e a (by omega) (by omega))⟩
  · exact e4.of (by rw [i 270 (by decide) (by decide)]) (by rw [i 270 (by decide) (by decide)]) (i _ (by decide) (by decide)) (j _ (by decide) (by decide)) (j _ (by decide) (by decide)) (fun s hs => eb _ (by omega)) (fun s hs X iy q => q.of (fun a h1 h2 => e a (by omega) (by omega)))
theorem CI.fm (h : CI M T L B k lf lg N pu n W sn ho hw) (hf : fM M M2) : CI M2 T L B k lf lg N pu n W sn ho hw := h.of (fun a h1 h2 => hf.2 a (Or.inl h2)) (fun _ _ => rfl)
theorem MI.of (h : MI M T L B k lf lg N pu n W sn ho hw) (e : ∀ a, 317 ≤ a → a < 351 → M2.2.1 a = M.2.1 a ∧ M2.2.2 a = M.2.2 a) : MI M2 T L B k lf lg N pu n W sn ho hw := by
  obtain ⟨⟨a1, a2, a3⟩, ⟨b1, b2, b3⟩, c1, d1, d2, d3⟩ := h
  have i := fun a h1 h2 => (e a h1 h2).1
  have j := fun a h1 h2 => (e a h1 h2).2
  have e7 := i 317 (by decide) (by decide)
  exact ⟨⟨a1.of (j _ (by decide) (by decide)), by rw [e7]; exact a2, by rw [i 318 (by decide) (by decide)]; exact a3⟩, ⟨fun q hq => (b1 q hq).of (fun a ha => i a (by revert ha; simp only [List.mem_cons, List.not_mem_nil, or_false]; omega) (by revert ha; simp only [List.mem_cons, List.not_mem_nil, or_false]; omega)), by rw [e7]; exact b2, by rw [e7]; exact b3⟩, fun s hs => by rw [i 343 (by decide) (by decide)]; exact c1 s hs, d1.of (by rw [e7]) (by rw [e7]) (i _ (by decide) (by decide)), d2.of (by rw [e7]) (i _ (by decide) (by decide)) (i _ (by decide) (by decide)), d3.of (by rw [e7]) (i _ (by decide) (by decide)) (i _ (by decide) (by decide))⟩
theorem MI.fc (h : MI M T L B k lf lg N pu n W sn ho hw) (hf : fC M M2) : MI M2 T L B k lf lg N pu n W sn ho hw := h.of (fun a h1 h2 => hf.2 a (Or.inr h1))
/-- the model's searches and small calls: the boards stay, and of its own fields those that count -/
theorem MI.ke (h : MI M T L B k lf lg N pu n W sn ho hw) (hb : MB M2 B) (j2 : M2.2.2 322 = M.2.2 322) (h7 : ∀ q, q ∈ [2, 27, 28, 31, 32, 45, 48] → M2.2.1 317 q = M.2.1 317 q) (hr : ∀ a, a ∈ [318, 337, 343, 345, 346, 347, 348] → M2.2.1 a = M.2.1 a) : MI M2 T L B k lf lg N pu n W sn ho hw := by
  obtain ⟨⟨a1, a2, a3⟩, ⟨b1, b2, b3⟩, c1, d1, d2, d3⟩ := h
  exact ⟨⟨a1.of j2, by rw [h7 2 (by decide)]; exact a2, by rw [hr 318 (by decide)]; exact a3⟩, ⟨hb, by rw [h7 28 (by decide)]; exact b2, by rw [h7 27 (by decide)]; exact b3⟩, fun s hs => by rw [hr 343 (by decide)]; exact c1 s hs, d1.of (h7 32 (by decide)) (h7 31 (by decide)) (hr _ (by decide)), d2.of (h7 45 (by decide)) (hr _ (by decide)) (hr _ (by decide)), d3.of (h7 48 (by decide)) (hr _ (by decide)) (hr _ (by decide))⟩
theorem MI.z (h : MI M T L B k lf lg N pu n W sn ho hw) : MI (pI M 317 0 0) T L B k lf lg N pu n W sn ho hw := h.ke h.2.1.1.z rfl (fun q hq => pI_nk (fun e => by subst e; revert hq; decide)) (fun a ha => pI_ne (fun e => by subst e; revert ha; decide))
end INV9
