/-! the start: what the entry says, as the world of a memory -/
theorem st_cls : vwCl.all (fun q => (u_ws q.1 q.2.1 q.2.2).all (fun w => decide (w ∈ lw_tbl)) && decide (Cond.instantiable q.1 q.2.2 ∈ lw_tbl)) = true := by decide +kernel
theorem st_kn {s : State} {A : Array Value} (hts : ∀ w ∈ lw_tbl, w.before A s = true) : ∃ G : va_G, ∀ (c : Nat) (q : vw_C), vwCl[c]? = some q → u_Kn s q.1 q.2.1 q.2.2 (G.1 c) (G.2 c) := by
  have h : ∀ c : Nat, ∃ g : ClassId × (Nat → Nat), ∀ q : vw_C, vwCl[c]? = some q → u_Kn s q.1 q.2.1 q.2.2 g.1 g.2 := by
    intro c
    cases hq : vwCl[c]? with
    | none => exact ⟨(Classical.choice ⟨default⟩, fun _ => 0), fun q h => by cases h⟩
    | some q =>
      have h1 := Bool.and_eq_true_iff.mp (List.all_eq_true.mp st_cls q (List.mem_of_getElem? hq))
      obtain ⟨cC, iS, h2⟩ := u_known (C := q.1) (T := q.2.1) (N := q.2.2) (n := q.2.2) hts (fun w hw => of_decide_eq_true (List.all_eq_true.mp h1.1 w hw)) (hts _ (of_decide_eq_true h1.2))
      exact ⟨(cC, iS), fun q2 h => by cases h; exact h2⟩
  obtain ⟨g, hg⟩ := Classical.axiomOfChoice h
  exact ⟨(fun c => (g c).1, fun c => (g c).2), hg⟩
theorem st_tb {s : State} {A : Array Value} (hts : ∀ w ∈ lw_tbl, w.before A s = true) : pTb s := by
  refine ⟨fun w hw ho => ?_, va_AO.of (hts _ (by decide +kernel))⟩
  have hb := hts w hw
  by_cases hg : goodWord w = true
  · exact word_at (State.WarmedH.refl s) (good_of_word hg) hb
  · cases w <;> simp [pOkw, hg] at ho
    · exact va_Nw.of rfl hb
    · exact va_Nw.of rfl hb
def txU : Term := .string RX8 29
theorem st_el : ∀ j, j < 91 → Cond.eq (.elem (.field txU "java/lang/String" "value" "[B") (.int (Int32.ofNat j))) (.int (([txB].getD 0 []).getD j 0)) ∈ flatC (Jvm.Cond.and given_1 narrow_1) := by decide +kernel
theorem st_tx {s : State} {A : Array Value} {b : Nat} {G : va_G} (hts : ∀ w ∈ lw_tbl, w.before A s = true) (hgv : (Jvm.Cond.and given_1 narrow_1).before A s = true) : ∃ a : Nat, pTx (b, a, s.heap, G) s := by
  have hs := flat_of_before _ hgv
  have hA : ∀ a : Nat, a < s.heap.size → ¬ (fun q => s.heap.size ≤ q) a := fun a h => Nat.not_le.mpr h
  obtain ⟨adK, adV, h1, h2⟩ := vk_Sof (args := A) (s := s) (N := 1) (tm := fun _ => txU) (len := [91]) (byt := [txB]) (A := fun q => s.heap.size ≤ q)
    (fun i hi => by have : i = 0 := by omega
                    subst this; decide)
    (fun i hi => hs _ (by decide +kernel)) (fun i hi => hs _ (by decide +kernel)) (fun i hi => hs _ (by decide +kernel))
    (fun i hi => by have : i = 0 := by omega
                    subst this; exact hs _ (by decide +kernel))
    (fun i hi j hj => by
      have : i = 0 := by omega
      subst this
      exact hs _ (st_el j hj))
    (fun i j hi hj h => absurd (show i = j by omega) h) hA
  refine ⟨adK 0, adV 0, vk_R.of (A := A) (hts _ (by decide +kernel)) (h2 0 (by decide)), ⟨fun i hi => ?_, fun i j hi hj _ => by omega⟩, va_Zof (args := A) (hts _ (by decide +kernel)) (hts _ (by decide +kernel)) (va_eqt (hs _ (by decide +kernel))) hA, va_Zqof (args := A) (hts _ (by decide +kernel)) (hts _ (by decide +kernel)) (hs _ (by decide +kernel)) hA, vx_Zqof (args := A) (hts _ (by decide +kernel)) (hts _ (by decide +kernel)) (hs _ (by decide +kernel)) hA, vx_Zqof (args := A) (hts _ (by decide +kernel)) (hts _ (by decide +kernel)) (hs _ (by decide +kernel)) hA, va_Nw.of rfl (hts _ (by decide +kernel)), fun Y hY => va_Nw.of rfl (hts _ ?_)⟩
  · have : i = 0 := by omega
    subst this
    exact h1.1 0 (by decide)
  · exact (show ∀ Y ∈ xDs, Cond.declares ⟨Y, "<init>", "()V"⟩ ∈ lw_tbl by decide +kernel) Y hY
/-- the memory at the start -/
def stM (L : Nat) (xs : Nat → Int32) : pM := ((2, (fun c => if c = 0 then (8, L) else (7, 0)), fun _ _ => none), (fun c j => if c = 0 then (xs j).toInt else 0), fun _ _ => 0)
theorem st_inR (x : Int32) : inR x.toInt := ⟨Int32.le_toInt x, Int32.toInt_lt x⟩
theorem st_iI (x : Int32) : iI x.toInt = x := Int32.ofInt_toInt x
theorem st_pW {s : State} {A : Array Value} {b a L : Nat} {xs : Nat → Int32} {G : va_G} (hts : ∀ w ∈ lw_tbl, w.before A s = true) (hG : ∀ (c : Nat) (q : vw_C), vwCl[c]? = some q → u_Kn s q.1 q.2.1 q.2.2 (G.1 c) (G.2 c)) (hT : pTx (b, a, s.heap, G) s) (hX : va_X b L xs s s.heap) (hb : b < s.heap.size) (hL : L ≤ 3584) : pW (b, a, s.heap, G) (stM L xs) s s.heap := by
  obtain ⟨adV, hTa⟩ := hT
  obtain ⟨cf, k, i, f, cell, g1, g2, g3, g4, g5, g6⟩ := (hTa.2.1.1 0 (by decide)).2.2.1
  have hal : a < s.heap.size := (Array.getElem?_eq_some_iff.mp g3).1
  have hne : b ≠ a := by
    intro e
    subst e
    obtain ⟨scr, k1, k2, k3, k4, k5⟩ := hX
    cases (k1.symm.trans g3)
    have hlt : f.slot < L := by rw [← k4]; exact (Array.getElem?_eq_some_iff.mp g5).1
    have := (k5 _ hlt).symm.trans g5
    cases this
  refine ⟨st_tb hts, hG, ⟨hb, hal, hne⟩, Nat.le_refl _, rfl, fun q _ => rfl, fun c => ⟨fun ci h => ?_, fun t n h h2 h6 => ?_, fun n h => ?_⟩⟩
  · by_cases u : c = 0
    · rw [show (stM L xs).1.2.1 c = (8, L) from if_pos u] at h; exact absurd (congrArg Prod.fst h) (by show ¬ (8 : Nat) = 1; decide)
    · rw [show (stM L xs).1.2.1 c = (7, 0) from if_neg u] at h; exact absurd (congrArg Prod.fst h) (by show ¬ (7 : Nat) = 1; decide)
  · by_cases u : c = 0
    · rw [show (stM L xs).1.2.1 c = (8, L) from if_pos u] at h
      have h9 : (8 : Nat) = t := congrArg Prod.fst h
      omega
    · rw [show (stM L xs).1.2.1 c = (7, 0) from if_neg u] at h
      have h9 : (7 : Nat) = t := congrArg Prod.fst h
      omega
  · by_cases u : c = 0
    · rw [show (stM L xs).1.2.1 c = (8, L) from if_pos u] at h
      have h9 : L = n := congrArg Prod.snd h
      subst h9
      subst u
      refine ⟨by omega, ?_⟩
      obtain ⟨scr, k1, k2, k3, k4, k5⟩ := hX
      refine ⟨scr, k1, k2, k3, k4, fun j hj => ?_⟩
      rw [k5 j hj]
      show some (Value.int (xs j)) = some (Value.int (iI ((xs j).toInt)))
      rw [st_iI]
    · rw [show (stM L xs).1.2.1 c = (7, 0) from if_neg u] at h; exact absurd (congrArg Prod.fst h) (by show ¬ (7 : Nat) = 8; decide)
theorem whole_start {p : Program} {e : Env} {s : State} {m : MethodId} {below : List Frame} {meth : Method} {c : Code} (l : Launch) (hlt : l.stackTraces = false) {b L : Nat} {xs : Nat → Int32} (hL : L ≤ 3584) (C0 : lw_At p s m meth c b L xs) : W p l e room_1 s m #[Value.ref b] below meth c s.heap [] 0 0 (lw_Z below #[Value.ref b] s) (entryFrame m ([Value.ref b] : List Value).toArray 7) := by
  obtain ⟨hx, hb, hr, hml, hown, hts, hX, hbl, hlocks, hgv⟩ := C0
  obtain ⟨G, hG⟩ := st_kn hts
  obtain ⟨a, hT⟩ := st_tx (b := b) (G := G) hts hgv
  have hW := st_pW hts hG hT hX hbl hL
  have E : pE p room_1 s m meth c 350 862 119695 yL_law cL_law := ⟨hx, hb, hown, fun h => absurd h (by decide), by decide, by decide, by decide, by decide⟩
  have hgo := lwx_go (e := e) (args := #[Value.ref b]) (below := below) (M := stM L xs) (sc := fun j => (xs j).toInt) hlt E hT (lwx_end hx hb hr hlocks rfl) (fun j => st_inR _) hL ⟨rfl, rfl, rfl⟩
  have hl := lv_entry (([.ref 0] : List Value).map (pTv (b, a, s.heap, G))) (n := 7) (Nat.le_of_ble_eq_true rfl)
  have h9 := hgo s.heap _ [] 0 0 hW (pEnt_lr (b, a, s.heap, G) (as := [.ref 0]) (n := 7) (Nat.le_of_ble_eq_true rfl) hl) (by rw [hml]; rfl) (fun q hq => by cases hq) (by decide) (by decide)
  rw [lg_entry_eq]
  exact h9
