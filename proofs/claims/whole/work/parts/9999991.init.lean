/-! what holds before the first call -/
def d00 : bD := ((fun _ => 0, fun _ => 0), (fun h => (h : Int)), (fun h => 3 * h + 1), (fun _ => -1), fun _ => 0)
def d01 : bD := ((fun _ => 0, fun _ => 0), (fun _ => 0), (fun _ => 0), (fun _ => 0), fun _ => 0)
def b00 : Nat → bS := fun i => if i = 0 then (d00, fun _ => 0) else (d01, fun _ => 0)
theorem mvc_0 : ∀ n, mvc (fun _ => 0) n = 0
  | 0 => rfl
  | n + 1 => by unfold mvc; rw [mvc_0 n]; simp
theorem pcc_0 : ∀ n, pcc (fun _ => 0) n = 0
  | 0 => rfl
  | n + 1 => by unfold pcc; rw [pcc_0 n]; simp
theorem bT_0 (p : Nat) : bT d00 p = -1 := by
  rcases (tal_A (pc := d00.1.1) 156 (Nat.le_refl _)).1 p with h | ⟨-, -, -, h⟩
  · exact h
  · have h9 : (0 : Int) = 4 ∨ (0 : Int) = 8 := h
    omega
theorem ok_00 : okB (d00, fun _ => 0) := by
  refine ⟨⟨fun h hh => ?_, fun x hx => ?_, ?_⟩, fun p hp => ?_, fun p _ => rfl⟩
  · show 0 ≤ (h : Int) ∧ (h : Int) < 4 ∧ 3 * h + 1 < 13 ∧ (0 : Int) ≤ 0 ∧ (0 : Int) ≤ 999
    omega
  · show (-1 : Int) ≤ -1 ∧ (-1 : Int) < 4
    omega
  · show mvc (fun _ => 0) 156 ≤ 16
    rw [mvc_0]; omega
  · show (0 ≤ (0 : Int) ∧ (0 : Int) ≤ 9) ∧ (0 ≤ (0 : Int) ∧ (0 : Int) ≤ 9) ∧ (0 ≤ (0 : Int) ∧ (0 : Int) ≤ 9) ∧ ((0 : Int) = 7 → 2 ≤ (0 : Int) ∧ (0 : Int) < 0) ∧ ((0 : Int) = 4 ∨ (0 : Int) = 9 → (0 : Int) ≤ 1) ∧ (¬ (0 : Int) = 4 → ¬ (0 : Int) = 7 → ¬ (0 : Int) = 9 → (0 : Int) = 0)
    omega
theorem mW_9 : ∀ w, w < 17 → mW9 w = lN (m37 8 (kwI (pw w))) := by decide +kernel
theorem bl_00 (j : Nat) : bl 0 j = false := by unfold bl; simp
/-- all cells as the constructors leave them -/
def IN0 (M : pM) : Prop := sOk M.1 ∧ (∀ c j, 2 ≤ c → c < 351 → M.2.1 c j = z0 c j) ∧ M.2.2 19 11 = 0 ∧ cWd M ∧ ∀ k, k < 17 → M.2.2 322 k = mW9 k
theorem z0_19 {i j : Nat} (hi : i < 10) : z0 (19 + i) j = if i = 4 ∧ j < 156 then -1 else if i = 6 ∧ j < 13 then -1 else if i = 7 ∧ j < 4 then 3 * (j : Int) + 1 else if i = 8 ∧ j < 4 then (j : Int) else 0 := z0_b isB_19 hi
theorem INV.z {M : pM} (h : IN0 M) : INV 0 M := by
  obtain ⟨hS, hz, h11, hcw, hmw⟩ := h
  have zz : ∀ c j, 2 ≤ c → c < 351 → z0n c = true → M.2.1 c j = 0 := fun c j h1 h2 h3 => (hz c j h1 h2).trans (z0_0 h3)
  have b9 : ∀ i j, i < 10 → M.2.1 (19 + i) j = if i = 4 ∧ j < 156 then -1 else if i = 6 ∧ j < 13 then -1 else if i = 7 ∧ j < 4 then 3 * (j : Int) + 1 else if i = 8 ∧ j < 4 then (j : Int) else 0 := fun i j hi => (hz (19 + i) j (by omega) (by omega)).trans (z0_19 hi)
  have e0 : b00 0 = (d00, fun _ => 0) := if_pos rfl
  refine ⟨hS, fun _ => 0, 0, b00, 0, fun _ => 0, fun _ => 0, 0, 0, 0, fun _ => -1, 0, fun _ => 0, fun _ => 0, ?_, ?_, ?_, by omega⟩
  · refine ⟨⟨by omega, fun j hj => absurd hj (by omega), by omega, by omega⟩, ⟨by rw [e0]; exact ok_00, fun i hi => absurd hi (by omega)⟩, fun s hs => (by decide : (0 : Int) ≤ 0 ∧ (0 : Int) ≤ 1), fun s hs q => absurd (show (0 : Int) = 1 from q) (by decide), fun i => (by decide : (0 : Nat) < 4)⟩
  · refine ⟨⟨hcw, zz 3 5 (by decide) (by decide) (by decide), funext (fun j => zz 5 j (by decide) (by decide) (by decide)), fun c hc => by rw [zz 261 c (by decide) (by decide) (by decide)]; omega, fun i hi => by rw [zz 262 i (by decide) (by decide) (by decide)]; omega⟩, ⟨⟨fun _ => 0, ?_⟩, ⟨0, ⟨zz 40 1 (by decide) (by decide) (by decide), zz 40 2 (by decide) (by decide) (by decide), by omega, by omega⟩, fun i hi => absurd hi (by omega)⟩, zz 29 15 (by decide) (by decide) (by decide)⟩, ⟨fun s hs => zz 253 s (by decide) (by decide) (by decide), fun s hs q => absurd (show (0 : Int) = 1 from q) (by decide)⟩, ⟨⟨zz 254 1 (by decide) (by decide) (by decide), fun j hj => zz 255 j (by decide) (by decide) (by decide)⟩, ⟨zz 266 3 (by decide) (by decide) (by decide), by omega, fun i hi => absurd hi (by omega), fun p hp q => absurd (show (0 : Int) ≤ -1 from q) (by decide), fun i j hi => absurd hi (by omega)⟩, ⟨(hz 270 6 (by decide) (by decide)).trans rfl, by omega, fun i hi => absurd hi (by omega)⟩⟩, Or.inl ?_, Or.inl (zz 264 1 (by decide) (by decide) (by decide)), Or.inl (zz 266 4 (by decide) (by decide) (by decide)), Or.inl ?_⟩
    · rw [e0]
      have q : ∀ i j, i < 10 → ¬ i = 4 → ¬ i = 6 → ¬ i = 7 → ¬ i = 8 → M.2.1 (19 + i) j = 0 := fun i j hi h4 h6 h7 h8 => by rw [b9 i j hi, if_neg (by omega), if_neg (by omega), if_neg (by omega), if_neg (by omega)]
      refine ⟨⟨⟨fun p hp => q 1 p (by decide) (by decide) (by decide) (by decide) (by decide), fun p hp => ?_, fun p hp => q 3 p (by decide) (by decide) (by decide) (by decide) (by decide), fun p hp => ?_, fun p hp h => absurd (show (0 : Int) = 4 from h) (by decide), fun p _ => (by decide : (0 : Nat) < 16), fun p _ _ _ h => ?_⟩, fun h hh => ⟨?_, ?_, q 9 h (by decide) (by decide) (by decide) (by decide) (by decide)⟩, fun x hx => ?_⟩, fun j hj => ?_, fun p hp h => ?_, ?_, ?_⟩
      · have h9 := q 2 p (by decide) (by decide) (by decide) (by decide) (by decide)
        exact ⟨by omega, by omega, fun h => by have h8 : (0 : Int) = 6 ∨ (0 : Int) = 7 := h; omega⟩
      · show M.2.1 (19 + 4) p = bT d00 p
        rw [bT_0, b9 4 p (by decide), if_pos ⟨rfl, hp⟩]
      · have h8 : (0 : Int) = 4 ∨ (0 : Int) = 7 ∨ (0 : Int) = 9 := h
        omega
      · rw [b9 8 h (by decide), if_neg (by omega), if_neg (by omega), if_neg (by omega), if_pos ⟨rfl, hh⟩]; rfl
      · rw [b9 7 h (by decide), if_neg (by omega), if_neg (by omega), if_pos ⟨rfl, hh⟩]
        show 3 * (h : Int) + 1 = ((3 * h + 1 : Nat) : Int)
        omega
      · rw [b9 6 x (by decide), if_neg (by omega), if_pos ⟨rfl, hx⟩]; rfl
      · rw [h11, bl_00]
        refine ⟨fun h => absurd h (by decide), ?_⟩
        rintro ⟨p, -, h, -⟩
        have h8 : (0 : Int) = 4 ∨ (0 : Int) = 7 ∨ (0 : Int) = 9 := h
        omega
      · have h8 : (0 : Int) = 4 ∨ (0 : Int) = 7 ∨ (0 : Int) = 9 := h
        omega
      · show M.2.1 (19 + 0) 9 = ((pcc (fun _ => 0) 156 : Nat) : Int)
        rw [pcc_0]; exact q 0 9 (by decide) (by decide) (by decide) (by decide) (by decide)
      · show M.2.1 (19 + 0) 10 = ((mvc (fun _ => 0) 156 : Nat) : Int)
        rw [mvc_0]; exact q 0 10 (by decide) (by decide) (by decide) (by decide) (by decide)
    · rw [hz 263 0 (by decide) (by decide)]; rfl
    · rw [hz 270 8 (by decide) (by decide)]; rfl
  · have z1 : ∀ j, M.2.1 331 j = if j < 13 then -1 else 0 := fun j => by
      rw [hz 331 j (by decide) (by decide)]
      unfold z0
      rw [show bO 331 = 10 by decide]
      simp
    have z2 : ∀ j, M.2.1 332 j = if j < 4 then 3 * (j : Int) + 1 else 0 := fun j => by
      rw [hz 332 j (by decide) (by decide)]
      unfold z0
      rw [show bO 332 = 10 by decide]
      simp
    have z3 : ∀ j, M.2.1 333 j = if j < 4 then (j : Int) else 0 := fun j => by
      rw [hz 333 j (by decide) (by decide)]
      unfold z0
      rw [show bO 333 = 10 by decide]
      simp
    refine ⟨⟨fun w hw => (hmw w hw).trans (mW_9 w hw), zz 317 2 (by decide) (by decide) (by decide), funext (fun j => zz 318 j (by decide) (by decide) (by decide))⟩, ⟨fun i hi => ?_, zz 317 28 (by decide) (by decide) (by decide), zz 317 27 (by decide) (by decide) (by decide)⟩, fun s hs => zz 343 s (by decide) (by decide) (by decide), ⟨zz 317 32 (by decide) (by decide) (by decide), zz 317 31 (by decide) (by decide) (by decide), fun j hj => zz 337 j (by decide) (by decide) (by decide)⟩, ⟨zz 317 45 (by decide) (by decide) (by decide), by omega, fun i hi => absurd hi (by omega), fun p hp q => absurd (show (0 : Int) ≤ -1 from q) (by decide), fun i j hi => absurd hi (by omega)⟩, ⟨zz 317 48 (by decide) (by decide) (by decide), by omega, fun i hi => absurd hi (by omega)⟩⟩
    by_cases u : i = 0
    · subst u
      rw [e0]
      refine ⟨fun p hp => ⟨zz 328 _ (by decide) (by decide) (by decide), zz 329 _ (by decide) (by decide) (by decide), zz 330 _ (by decide) (by decide) (by decide)⟩, fun h hh => ⟨?_, ?_, zz 334 _ (by decide) (by decide) (by decide)⟩, fun x hx => ?_⟩
      · rw [z3, if_pos (by omega)]
        show ((4 * 0 + h : Nat) : Int) = (h : Int)
        omega
      · rw [z2, if_pos (by omega)]
        show 3 * ((4 * 0 + h : Nat) : Int) + 1 = ((3 * h + 1 : Nat) : Int)
        omega
      · rw [z1, if_pos (by omega)]; rfl
    · rw [show b00 i = (d01, fun _ => 0) from if_neg u]
      refine ⟨fun p hp => ⟨zz 328 _ (by decide) (by decide) (by decide), zz 329 _ (by decide) (by decide) (by decide), zz 330 _ (by decide) (by decide) (by decide)⟩, fun h hh => ⟨?_, ?_, zz 334 _ (by decide) (by decide) (by decide)⟩, fun x hx => ?_⟩
      · rw [z3, if_neg (by omega)]; rfl
      · rw [z2, if_neg (by omega)]; rfl
      · rw [z1, if_neg (by omega)]; rfl
