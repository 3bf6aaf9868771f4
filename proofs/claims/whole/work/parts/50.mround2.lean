/-! comesRound as a whole; boards 26 and 27 are for trying -/
def frT (M M2 : pM) : Prop := fr [317, 328, 329, 330, 331, 332, 333, 334, 335, 336, 338, 339, 340, 341, 342, 344] M M2 ∧ (∀ j, j ∉ [38, 40, 41, 44] → M2.2.1 317 j = M.2.1 317 j) ∧ (∀ j, j < 4056 → M2.2.1 328 j = M.2.1 328 j ∧ M2.2.1 329 j = M.2.1 329 j ∧ M2.2.1 330 j = M.2.1 330 j) ∧ (∀ j, j < 338 → M2.2.1 331 j = M.2.1 331 j) ∧ ∀ j, j < 104 → M2.2.1 332 j = M.2.1 332 j ∧ M2.2.1 333 j = M.2.1 333 j ∧ M2.2.1 334 j = M.2.1 334 j
theorem frT.tr {M M1 M2 : pM} (h : frT M M1) (h2 : frT M1 M2) : frT M M2 :=
  ⟨h.1.tr h2.1, fun j hj => (h2.2.1 j hj).trans (h.2.1 j hj), fun j hj => ⟨(h2.2.2.1 j hj).1.trans (h.2.2.1 j hj).1, (h2.2.2.1 j hj).2.1.trans (h.2.2.1 j hj).2.1, (h2.2.2.1 j hj).2.2.trans (h.2.2.1 j hj).2.2⟩, fun j hj => (h2.2.2.2.1 j hj).trans (h.2.2.2.1 j hj), fun j hj => ⟨(h2.2.2.2.2 j hj).1.trans (h.2.2.2.2 j hj).1, (h2.2.2.2.2 j hj).2.1.trans (h.2.2.2.2 j hj).2.1, (h2.2.2.2.2 j hj).2.2.trans (h.2.2.2.2 j hj).2.2⟩⟩
theorem frT.cp {M M2 : pM} {s t : Nat} (h : mCp M M2 s t) (ht : 26 ≤ t) : frT M M2 := by
  obtain ⟨h0, h1, h2, h3, h4, h5, h6, h7⟩ := h
  refine ⟨h0.mono (by decide), fun j _ => by rw [h0.i (by decide)], fun j hj => ⟨?_, ?_, ?_⟩, fun j hj => ?_, fun j hj => ⟨?_, ?_, ?_⟩⟩
  · rw [h1, sB_out (by omega)]
  · rw [h2, sB_out (by omega)]
  · rw [h3, sB_out (by omega)]
  · rw [h4, sB_out (by omega)]
  · rw [h5, sB_out (by omega)]
  · rw [h6, sB_out (by omega)]
  · rw [h7, sB_out (by omega)]
theorem frT.of {M M2 : pM} (h : fr [317, 335, 336, 338, 339, 340, 341, 342, 344] M M2) (h2 : ∀ j, j ∉ [38, 40, 41, 44] → M2.2.1 317 j = M.2.1 317 j) : frT M M2 :=
  ⟨h.mono (by decide), h2, fun j _ => ⟨by rw [h.i (by decide)], by rw [h.i (by decide)], by rw [h.i (by decide)]⟩, fun j _ => by rw [h.i (by decide)], fun j _ => ⟨by rw [h.i (by decide)], by rw [h.i (by decide)], by rw [h.i (by decide)]⟩⟩
theorem frT.sh {M M2 : pM} {b : Nat} {sh : Nat → Int} (h : fr [317, 330, 338, 339, 340, 341, 342] M M2) (h2 : ∀ j, j ∉ [38, 40, 41, 44] → M2.2.1 317 j = M.2.1 317 j) (h3 : ∀ j, j < 4056 → M2.2.1 330 j = M.2.1 330 j) : frT M M2 :=
  ⟨h.mono (by decide), h2, fun j hj => ⟨by rw [h.i (by decide)], by rw [h.i (by decide)], h3 j hj⟩, fun j _ => by rw [h.i (by decide)], fun j _ => ⟨by rw [h.i (by decide)], by rw [h.i (by decide)], by rw [h.i (by decide)]⟩⟩
