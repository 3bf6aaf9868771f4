/-! the model's trains: trainOf 335, line 336 -/
def bs (p k : Nat) : Int := if k = 0 then (if 0 < p % 13 then (p : Int) - 1 else -1) else if k = 1 then (if p % 13 < 12 then (p : Int) + 1 else -1) else if k = 2 then (if 13 ≤ p then (p : Int) - 13 else -1) else if p + 13 < 156 then (p : Int) + 13 else -1
theorem bs_r {p k : Nat} (hp : p < 156) : -1 ≤ bs p k ∧ bs p k < 156 := by unfold bs; (repeat' split) <;> omega
def rD (pc : Nat → Int) (f p k : Nat) (s : tS) : tS := rch pc f (0 ≤ bs p k) (bs p k).toNat s
def dfo (pc : Nat → Int) (f p : Nat) : Nat → tS → tS
  | 0, s => s
  | n + 1, s => dfo pc f p n (rD pc f p (3 - n) s)
theorem dfo_4 {pc : Nat → Int} {f p : Nat} {s : tS} (hp : p < 156) : dfo pc f p 4 s = nb4 pc f p s := by
  show rD pc f p 3 (rD pc f p 2 (rD pc f p 1 (rD pc f p 0 s))) = _
  unfold rD nb4
  have e0 : ∀ t : tS, rch pc f (0 ≤ bs p 0) (bs p 0).toNat t = rch pc f (0 < p % 13) (p - 1) t := fun t => rch_eq (by unfold bs; simp only [if_true]; split <;> omega) (by unfold bs; simp only [if_true]; split <;> omega)
  have e1 : ∀ t : tS, rch pc f (0 ≤ bs p 1) (bs p 1).toNat t = rch pc f (p % 13 < 12) (p + 1) t := fun t => rch_eq (by unfold bs; rw [if_neg (by decide), if_pos rfl]; split <;> omega) (by unfold bs; rw [if_neg (by decide), if_pos rfl]; split <;> omega)
  have e2 : ∀ t : tS, rch pc f (0 ≤ bs p 2) (bs p 2).toNat t = rch pc f (13 ≤ p) (p - 13) t := fun t => rch_eq (by unfold bs; rw [if_neg (by decide), if_neg (by decide), if_pos rfl]; split <;> omega) (by unfold bs; rw [if_neg (by decide), if_neg (by decide), if_pos rfl]; split <;> omega)
  have e3 : ∀ t : tS, rch pc f (0 ≤ bs p 3) (bs p 3).toNat t = rch pc f (p + 13 < 156) (p + 13) t := fun t => rch_eq (by unfold bs; rw [if_neg (by decide), if_neg (by decide), if_neg (by decide)]; split <;> omega) (by unfold bs; rw [if_neg (by decide), if_neg (by decide), if_neg (by decide)]; split <;> omega)
  rw [e0, e1, e2, e3]
theorem rD_I {pc tr0 : Nat → Int} {f p k : Nat} {s : tS} (h : tI pc tr0 f s) (hp : p < 156) : tI pc tr0 f (rD pc f p k s) ∧ s.2.2 ≤ (rD pc f p k s).2.2 ∧ (∀ i, i < s.2.2 → (rD pc f p k s).2.1 i = s.2.1 i) := rch_I h (fun _ => by have := bs_r (k := k) hp; omega)
def tM (M : pM) (sl : Nat) (f0 : Nat → Int) (s : tS) : Prop := M.2.1 335 = sB f0 156 sl s.1 ∧ ∀ i, i < s.2.2 → M.2.1 336 i = ((s.2.1 i : Nat) : Int)
set_option maxHeartbeats 4000000 in
theorem c_X12_beside {d : Nat} {M : pM} {p k : Nat} (hp : p < 156) (hk : k < 4) : Ct (d + 1) 0 0 yX12_beside [.int (iI ((p : Nat) : Int)), .int (iI ((k : Nat) : Int))] M (fun v M2 => v = some (.int (iI (bs p k))) ∧ M2 = M) := by
  refine ct_in (d := d) kX12_beside rfl (by decide) (Nat.le_of_ble_eq_true rfl) (by decide) ?_
  show Go (Ct d) _ yX12_beside cX12_beside (some .int) 0 0 0 [some (.int (iI ((p : Nat) : Int))), some (.int (iI ((k : Nat) : Int))), none, none] [] M
  refine r_iload0 (pc2 := 1) dX12_beside_0 rfl ?_
  refine r_bipush (pc2 := 3) dX12_beside_1 rfl (by decide) (by decide) ?_
  refine r_irem (pc2 := 4) dX12_beside_3 rfl (by omega) (by omega) (by omega) (by omega) ?_
  refine r_iload1 (pc2 := 5) dX12_beside_4 rfl ?_
  refine r_ifne (tgt := 12) (pc2 := 8) dX12_beside_5 rfl (by decide) ⟨by omega, by omega⟩ (fun b_5 => ?_) (fun b_5 => ?_)
  · refine r_iload1 (pc2 := 13) dX12_beside_12 rfl ?_
    refine r_iconst (pc2 := 14) dX12_beside_13 rfl ?_
    refine r_icne (tgt := 21) (pc2 := 17) dX12_beside_14 rfl (by decide) ⟨by omega, by omega⟩ ⟨by omega, by omega⟩ (fun b_14 => ?_) (fun b_14 => ?_)
    · refine r_iconst (pc2 := 22) dX12_beside_21 rfl ?_
      refine r_iadd (c := ((((p : Nat) : Int) % 13) + 0)) (pc2 := 23) dX12_beside_22 rfl rfl ?_
      refine r_istore2 (pc2 := 24) dX12_beside_23 rfl rfl ?_
      refine r_iload0 (pc2 := 25) dX12_beside_24 rfl ?_
      refine r_bipush (pc2 := 27) dX12_beside_25 rfl (by decide) (by decide) ?_
      refine r_idiv (pc2 := 28) dX12_beside_27 rfl (by omega) (by omega) (by omega) (by omega) ?_
      refine r_iload1 (pc2 := 29) dX12_beside_28 rfl ?_
      refine r_iconst (pc2 := 30) dX12_beside_29 rfl ?_
      refine r_icne (tgt := 37) (pc2 := 33) dX12_beside_30 rfl (by decide) ⟨by omega, by omega⟩ ⟨by omega, by omega⟩ (fun b_30 => ?_) (fun b_30 => ?_)
      · refine r_iload1 (pc2 := 38) dX12_beside_37 rfl ?_
        refine r_iconst (pc2 := 39) dX12_beside_38 rfl ?_
        refine r_icne (tgt := 46) (pc2 := 42) dX12_beside_39 rfl (by decide) ⟨by omega, by omega⟩ ⟨by omega, by omega⟩ (fun b_39 => ?_) (fun b_39 => ?_)
        · refine r_iconst (pc2 := 47) dX12_beside_46 rfl ?_
          refine r_iadd (c := ((((p : Nat) : Int) / 13) + 0)) (pc2 := 48) dX12_beside_47 rfl rfl ?_
          refine r_istore3 (pc2 := 49) dX12_beside_48 rfl rfl ?_
          refine r_iload2 (pc2 := 50) dX12_beside_49 rfl ?_
          refine r_iflt (tgt := 69) (pc2 := 53) dX12_beside_50 rfl (by decide) ⟨by omega, by omega⟩ (fun b_50 => ?_) (fun b_50 => ?_)
          · refine r_iconst (pc2 := 70) dX12_beside_69 rfl ?_
            refine r_goto (tgt := 79) dX12_beside_70 (by decide) ?_
            refine r_ireti dX12_beside_79 rfl ?_
            refine ⟨?_, rfl⟩
            congr 3
            unfold bs
            (repeat' split) <;> omega
          · refine r_iload2 (pc2 := 54) dX12_beside_53 rfl ?_
            refine r_bipush (pc2 := 56) dX12_beside_54 rfl (by decide) (by decide) ?_
            refine r_icge (tgt := 69) (pc2 := 59) dX12_beside_56 rfl (by decide) ⟨by omega, by omega⟩ ⟨by omega, by omega⟩ (fun b_56 => ?_) (fun b_56 => ?_)
            · refine r_iconst (pc2 := 70) dX12_beside_69 rfl ?_
              refine r_goto (tgt := 79) dX12_beside_70 (by decide) ?_
              refine r_ireti dX12_beside_79 rfl ?_
              refine ⟨?_, rfl⟩
              congr 3
              unfold bs
              (repeat' split) <;> omega
            · refine r_iload3 (pc2 := 60) dX12_beside_59 rfl ?_
              refine r_iflt (tgt := 69) (pc2 := 63) dX12_beside_60 rfl (by decide) ⟨by omega, by omega⟩ (fun b_60 => ?_) (fun b_60 => ?_)
              · refine r_iconst (pc2 := 70) dX12_beside_69 rfl ?_
                refine r_goto (tgt := 79) dX12_beside_70 (by decide) ?_
                refine r_ireti dX12_beside_79 rfl ?_
                refine ⟨?_, rfl⟩
                congr 3
                unfold bs
                (repeat' split) <;> omega
              · refine r_iload3 (pc2 := 64) dX12_beside_63 rfl ?_
                refine r_bipush (pc2 := 66) dX12_beside_64 rfl (by decide) (by decide) ?_
                refine r_iclt (tgt := 73) (pc2 := 69) dX12_beside_66 rfl (by decide) ⟨by omega, by omega⟩ ⟨by omega, by omega⟩ (fun b_66 => ?_) (fun b_66 => ?_)
                · refine r_bipush (pc2 := 75) dX12_beside_73 rfl (by decide) (by decide) ?_
                  refine r_iload3 (pc2 := 76) dX12_beside_75 rfl ?_
                  refine r_imul (c := (13 * ((((p : Nat) : Int) / 13) + 0))) (pc2 := 77) dX12_beside_76 rfl rfl ?_
                  refine r_iload2 (pc2 := 78) dX12_beside_77 rfl ?_
                  refine r_iadd (c := ((13 * ((((p : Nat) : Int) / 13) + 0)) + ((((p : Nat) : Int) % 13) + 0))) (pc2 := 79) dX12_beside_78 rfl rfl ?_
                  refine r_ireti dX12_beside_79 rfl ?_
                  refine ⟨?_, rfl⟩
                  congr 3
                  unfold bs
                  (repeat' split) <;> omega
                · refine r_iconst (pc2 := 70) dX12_beside_69 rfl ?_
                  refine r_goto (tgt := 79) dX12_beside_70 (by decide) ?_
                  refine r_ireti dX12_beside_79 rfl ?_
                  refine ⟨?_, rfl⟩
                  congr 3
                  unfold bs
                  (repeat' split) <;> omega
        · refine r_iconst (pc2 := 43) dX12_beside_42 rfl ?_
          refine r_goto (tgt := 47) dX12_beside_43 (by decide) ?_
          refine r_iadd (c := ((((p : Nat) : Int) / 13) + 1)) (pc2 := 48) dX12_beside_47 rfl rfl ?_
          refine r_istore3 (pc2 := 49) dX12_beside_48 rfl rfl ?_
          refine r_iload2 (pc2 := 50) dX12_beside_49 rfl ?_
          refine r_iflt (tgt := 69) (pc2 := 53) dX12_beside_50 rfl (by decide) ⟨by omega, by omega⟩ (fun b_50 => ?_) (fun b_50 => ?_)
          · refine r_iconst (pc2 := 70) dX12_beside_69 rfl ?_
            refine r_goto (tgt := 79) dX12_beside_70 (by decide) ?_
            refine r_ireti dX12_beside_79 rfl ?_
            refine ⟨?_, rfl⟩
            congr 3
            unfold bs
            (repeat' split) <;> omega
          · refine r_iload2 (pc2 := 54) dX12_beside_53 rfl ?_
            refine r_bipush (pc2 := 56) dX12_beside_54 rfl (by decide) (by decide) ?_
            refine r_icge (tgt := 69) (pc2 := 59) dX12_beside_56 rfl (by decide) ⟨by omega, by omega⟩ ⟨by omega, by omega⟩ (fun b_56 => ?_) (fun b_56 => ?_)
            · refine r_iconst (pc2 := 70) dX12_beside_69 rfl ?_
              refine r_goto (tgt := 79) dX12_beside_70 (by decide) ?_
              refine r_ireti dX12_beside_79 rfl ?_
              refine ⟨?_, rfl⟩
              congr 3
              unfold bs
              (repeat' split) <;> omega
            · refine r_iload3 (pc2 := 60) dX12_beside_59 rfl ?_
              refine r_iflt (tgt := 69) (pc2 := 63) dX12_beside_60 rfl (by decide) ⟨by omega, by omega⟩ (fun b_60 => ?_) (fun b_60 => ?_)
              · refine r_iconst (pc2 := 70) dX12_beside_69 rfl ?_
                refine r_goto (tgt := 79) dX12_beside_70 (by decide) ?_
                refine r_ireti dX12_beside_79 rfl ?_
                refine ⟨?_, rfl⟩
                congr 3
                unfold bs
                (repeat' split) <;> omega
              · refine r_iload3 (pc2 := 64) dX12_beside_63 rfl ?_
                refine r_bipush (pc2 := 66) dX12_beside_64 rfl (by decide) (by decide) ?_
                refine r_iclt (tgt := 73) (pc2 := 69) dX12_beside_66 rfl (by decide) ⟨by omega, by omega⟩ ⟨by omega, by omega⟩ (fun b_66 => ?_) (fun b_66 => ?_)
                · refine r_bipush (pc2 := 75) dX12_beside_73 rfl (by decide) (by decide) ?_
                  refine r_iload3 (pc2 := 76) dX12_beside_75 rfl ?_
                  refine r_imul (c := (13 * ((((p : Nat) : Int) / 13) + 1))) (pc2 := 77) dX12_beside_76 rfl rfl ?_
                  refine r_iload2 (pc2 := 78) dX12_beside_77 rfl ?_
                  refine r_iadd (c := ((13 * ((((p : Nat) : Int) / 13) + 1)) + ((((p : Nat) : Int) % 13) + 0))) (pc2 := 79) dX12_beside_78 rfl rfl ?_
                  refine r_ireti dX12_beside_79 rfl ?_
                  refine ⟨?_, rfl⟩
                  congr 3
                  unfold bs
                  (repeat' split) <;> omega
                · refine r_iconst (pc2 := 70) dX12_beside_69 rfl ?_
                  refine r_goto (tgt := 79) dX12_beside_70 (by decide) ?_
                  refine r_ireti dX12_beside_79 rfl ?_
                  refine ⟨?_, rfl⟩
                  congr 3
                  unfold bs
                  (repeat' split) <;> omega
      · refine r_iconst (pc2 := 34) dX12_beside_33 rfl ?_
        refine r_goto (tgt := 47) dX12_beside_34 (by decide) ?_
        refine r_iadd (c := ((((p : Nat) : Int) / 13) + (-1))) (pc2 := 48) dX12_beside_47 rfl rfl ?_
        refine r_istore3 (pc2 := 49) dX12_beside_48 rfl rfl ?_
        refine r_iload2 (pc2 := 50) dX12_beside_49 rfl ?_
        refine r_iflt (tgt := 69) (pc2 := 53) dX12_beside_50 rfl (by decide) ⟨by omega, by omega⟩ (fun b_50 => ?_) (fun b_50 => ?_)
        · refine r_iconst (pc2 := 70) dX12_beside_69 rfl ?_
          refine r_goto (tgt := 79) dX12_beside_70 (by decide) ?_
          refine r_ireti dX12_beside_79 rfl ?_
          refine ⟨?_, rfl⟩
          congr 3
          unfold bs
          (repeat' split) <;> omega
        · refine r_iload2 (pc2 := 54) dX12_beside_53 rfl ?_
          refine r_bipush (pc2 := 56) dX12_beside_54 rfl (by decide) (by decide) ?_
          refine r_icge (tgt := 69) (pc2 := 59) dX12_beside_56 rfl (by decide) ⟨by omega, by omega⟩ ⟨by omega, by omega⟩ (fun b_56 => ?_) (fun b_56 => ?_)
          · refine r_iconst (pc2 := 70) dX12_beside_69 rfl ?_
            refine r_goto (tgt := 79) dX12_beside_70 (by decide) ?_
            refine r_ireti dX12_beside_79 rfl ?_
            refine ⟨?_, rfl⟩
            congr 3
            unfold bs
            (repeat' split) <;> omega
          · refine r_iload3 (pc2 := 60) dX12_beside_59 rfl ?_
            refine r_iflt (tgt := 69) (pc2 := 63) dX12_beside_60 rfl (by decide) ⟨by omega, by omega⟩ (fun b_60 => ?_) (fun b_60 => ?_)
            · refine r_iconst (pc2 := 70) dX12_beside_69 rfl ?_
              refine r_goto (tgt := 79) dX12_beside_70 (by decide) ?_
              refine r_ireti dX12_beside_79 rfl ?_
              refine ⟨?_, rfl⟩
              congr 3
              unfold bs
              (repeat' split) <;> omega
            · refine r_iload3 (pc2 := 64) dX12_beside_63 rfl ?_
              refine r_bipush (pc2 := 66) dX12_beside_64 rfl (by decide) (by decide) ?_
              refine r_iclt (tgt := 73) (pc2 := 69) dX12_beside_66 rfl (by decide) ⟨by omega, by omega⟩ ⟨by omega, by omega⟩ (fun b_66 => ?_) (fun b_66 => ?_)
              · refine r_bipush (pc2 := 75) dX12_beside_73 rfl (by decide) (by decide) ?_
                refine r_iload3 (pc2 := 76) dX12_beside_75 rfl ?_
                refine r_imul (c := (13 * ((((p : Nat) : Int) / 13) + (-1)))) (pc2 := 77) dX12_beside_76 rfl rfl ?_
                refine r_iload2 (pc2 := 78) dX12_beside_77 rfl ?_
                refine r_iadd (c := ((13 * ((((p : Nat) : Int) / 13) + (-1))) + ((((p : Nat) : Int) % 13) + 0))) (pc2 := 79) dX12_beside_78 rfl rfl ?_
                refine r_ireti dX12_beside_79 rfl ?_
                refine ⟨?_, rfl⟩
                congr 3
                unfold bs
                (repeat' split) <;> omega
              · refine r_iconst (pc2 := 70) dX12_beside_69 rfl ?_
                refine r_goto (tgt := 79) dX12_beside_70 (by decide) ?_
                refine r_ireti dX12_beside_79 rfl ?_
                refine ⟨?_, rfl⟩
                congr 3
                unfold bs
                (repeat' split) <;> omega
    · refine r_iconst (pc2 := 18) dX12_beside_17 rfl ?_
      refine r_goto (tgt := 22) dX12_beside_18 (by decide) ?_
      refine r_iadd (c := ((((p : Nat) : Int) % 13) + 1)) (pc2 := 23) dX12_beside_22 rfl rfl ?_
      refine r_istore2 (pc2 := 24) dX12_beside_23 rfl rfl ?_
      refine r_iload0 (pc2 := 25) dX12_beside_24 rfl ?_
      refine r_bipush (pc2 := 27) dX12_beside_25 rfl (by decide) (by decide) ?_
      refine r_idiv (pc2 := 28) dX12_beside_27 rfl (by omega) (by omega) (by omega) (by omega) ?_
      refine r_iload1 (pc2 := 29) dX12_beside_28 rfl ?_
      refine r_iconst (pc2 := 30) dX12_beside_29 rfl ?_
      refine r_icne (tgt := 37) (pc2 := 33) dX12_beside_30 rfl (by decide) ⟨by omega, by omega⟩ ⟨by omega, by omega⟩ (fun b_30 => ?_) (fun b_30 => ?_)
      · refine r_iload1 (pc2 := 38) dX12_beside_37 rfl ?_
        refine r_iconst (pc2 := 39) dX12_beside_38 rfl ?_
        refine r_icne (tgt := 46) (pc2 := 42) dX12_beside_39 rfl (by decide) ⟨by omega, by omega⟩ ⟨by omega, by omega⟩ (fun b_39 => ?_) (fun b_39 => ?_)
        · refine r_iconst (pc2 := 47) dX12_beside_46 rfl ?_
          refine r_iadd (c := ((((p : Nat) : Int) / 13) + 0)) (pc2 := 48) dX12_beside_47 rfl rfl ?_
          refine r_istore3 (pc2 := 49) dX12_beside_48 rfl rfl ?_
          refine r_iload2 (pc2 := 50) dX12_beside_49 rfl ?_
          refine r_iflt (tgt := 69) (pc2 := 53) dX12_beside_50 rfl (by decide) ⟨by omega, by omega⟩ (fun b_50 => ?_) (fun b_50 => ?_)
          · refine r_iconst (pc2 := 70) dX12_beside_69 rfl ?_
            refine r_goto (tgt := 79) dX12_beside_70 (by decide) ?_
            refine r_ireti dX12_beside_79 rfl ?_
            refine ⟨?_, rfl⟩
            congr 3
            unfold bs
            (repeat' split) <;> omega
          · refine r_iload2 (pc2 := 54) dX12_beside_53 rfl ?_
            refine r_bipush (pc2 := 56) dX12_beside_54 rfl (by decide) (by decide) ?_
            refine r_icge (tgt := 69) (pc2 := 59) dX12_beside_56 rfl (by decide) ⟨by omega, by omega⟩ ⟨by omega, by omega⟩ (fun b_56 => ?_) (fun b_56 => ?_)
            · refine r_iconst (pc2 := 70) dX12_beside_69 rfl ?_
              refine r_goto (tgt := 79) dX12_beside_70 (by decide) ?_
              refine r_ireti dX12_beside_79 rfl ?_
              refine ⟨?_, rfl⟩
              congr 3
              unfold bs
              (repeat' split) <;> omega
            · refine r_iload3 (pc2 := 60) dX12_beside_59 rfl ?_
              refine r_iflt (tgt := 69) (pc2 := 63) dX12_beside_60 rfl (by decide) ⟨by omega, by omega⟩ (fun b_60 => ?_) (fun b_60 => ?_)
              · refine r_iconst (pc2 := 70) dX12_beside_69 rfl ?_
                refine r_goto (tgt := 79) dX12_beside_70 (by decide) ?_
                refine r_ireti dX12_beside_79 rfl ?_
                refine ⟨?_, rfl⟩
                congr 3
                unfold bs
                (repeat' split) <;> omega
              · refine r_iload3 (pc2 := 64) dX12_beside_63 rfl ?_
                refine r_bipush (pc2 := 66) dX12_beside_64 rfl (by decide) (by decide) ?_
                refine r_iclt (tgt := 73) (pc2 := 69) dX12_beside_66 rfl (by decide) ⟨by omega, by omega⟩ ⟨by omega, by omega⟩ (fun b_66 => ?_) (fun b_66 => ?_)
                · refine r_bipush (pc2 := 75) dX12_beside_73 rfl (by decide) (by decide) ?_
                  refine r_iload3 (pc2 := 76) dX12_beside_75 rfl ?_
                  refine r_imul (c := (13 * ((((p : Nat) : Int) / 13) + 0))) (pc2 := 77) dX12_beside_76 rfl rfl ?_
                  refine r_iload2 (pc2 := 78) dX12_beside_77 rfl ?_
                  refine r_iadd (c := ((13 * ((((p : Nat) : Int) / 13) + 0)) + ((((p : Nat) : Int) % 13) + 1))) (pc2 := 79) dX12_beside_78 rfl rfl ?_
                  refine r_ireti dX12_beside_79 rfl ?_
                  refine ⟨?_, rfl⟩
                  congr 3
                  unfold bs
                  (repeat' split) <;> omega
                · refine r_iconst (pc2 := 70) dX12_beside_69 rfl ?_
                  refine r_goto (tgt := 79) dX12_beside_70 (by decide) ?_
                  refine r_ireti dX12_beside_79 rfl ?_
                  refine ⟨?_, rfl⟩
                  congr 3
                  unfold bs
                  (repeat' split) <;> omega
        · refine r_iconst (pc2 := 43) dX12_beside_42 rfl ?_
          refine r_goto (tgt := 47) dX12_beside_43 (by decide) ?_
          refine r_iadd (c := ((((p : Nat) : Int) / 13) + 1)) (pc2 := 48) dX12_beside_47 rfl rfl ?_
          refine r_istore3 (pc2 := 49) dX12_beside_48 rfl rfl ?_
          refine r_iload2 (pc2 := 50) dX12_beside_49 rfl ?_
          refine r_iflt (tgt := 69) (pc2 := 53) dX12_beside_50 rfl (by decide) ⟨by omega, by omega⟩ (fun b_50 => ?_) (fun b_50 => ?_)
          · refine r_iconst (pc2 := 70) dX12_beside_69 rfl ?_
            refine r_goto (tgt := 79) dX12_beside_70 (by decide) ?_
            refine r_ireti dX12_beside_79 rfl ?_
            refine ⟨?_, rfl⟩
            congr 3
            unfold bs
            (repeat' split) <;> omega
          · refine r_iload2 (pc2 := 54) dX12_beside_53 rfl ?_
            refine r_bipush (pc2 := 56) dX12_beside_54 rfl (by decide) (by decide) ?_
            refine r_icge (tgt := 69) (pc2 := 59) dX12_beside_56 rfl (by decide) ⟨by omega, by omega⟩ ⟨by omega, by omega⟩ (fun b_56 => ?_) (fun b_56 => ?_)
            · refine r_iconst (pc2 := 70) dX12_beside_69 rfl ?_
              refine r_goto (tgt := 79) dX12_beside_70 (by decide) ?_
              refine r_ireti dX12_beside_79 rfl ?_
              refine ⟨?_, rfl⟩
              congr 3
              unfold bs
              (repeat' split) <;> omega
            · refine r_iload3 (pc2 := 60) dX12_beside_59 rfl ?_
              refine r_iflt (tgt := 69) (pc2 := 63) dX12_beside_60 rfl (by decide) ⟨by omega, by omega⟩ (fun b_60 => ?_) (fun b_60 => ?_)
              · refine r_iconst (pc2 := 70) dX12_beside_69 rfl ?_
                refine r_goto (tgt := 79) dX12_beside_70 (by decide) ?_
                refine r_ireti dX12_beside_79 rfl ?_
                refine ⟨?_, rfl⟩
                congr 3
                unfold bs
                (repeat' split) <;> omega
              · refine r_iload3 (pc2 := 64) dX12_beside_63 rfl ?_
                refine r_bipush (pc2 := 66) dX12_beside_64 rfl (by decide) (by decide) ?_
                refine r_iclt (tgt := 73) (pc2 := 69) dX12_beside_66 rfl (by decide) ⟨by omega, by omega⟩ ⟨by omega, by omega⟩ (fun b_66 => ?_) (fun b_66 => ?_)
                · refine r_bipush (pc2 := 75) dX12_beside_73 rfl (by decide) (by decide) ?_
                  refine r_iload3 (pc2 := 76) dX12_beside_75 rfl ?_
                  refine r_imul (c := (13 * ((((p : Nat) : Int) / 13) + 1))) (pc2 := 77) dX12_beside_76 rfl rfl ?_
                  refine r_iload2 (pc2 := 78) dX12_beside_77 rfl ?_
                  refine r_iadd (c := ((13 * ((((p : Nat) : Int) / 13) + 1)) + ((((p : Nat) : Int) % 13) + 1))) (pc2 := 79) dX12_beside_78 rfl rfl ?_
                  refine r_ireti dX12_beside_79 rfl ?_
                  refine ⟨?_, rfl⟩
                  congr 3
                  unfold bs
                  (repeat' split) <;> omega
                · refine r_iconst (pc2 := 70) dX12_beside_69 rfl ?_
                  refine r_goto (tgt := 79) dX12_beside_70 (by decide) ?_
                  refine r_ireti dX12_beside_79 rfl ?_
                  refine ⟨?_, rfl⟩
                  congr 3
                  unfold bs
                  (repeat' split) <;> omega
      · refine r_iconst (pc2 := 34) dX12_beside_33 rfl ?_
        refine r_goto (tgt := 47) dX12_beside_34 (by decide) ?_
        refine r_iadd (c := ((((p : Nat) : Int) / 13) + (-1))) (pc2 := 48) dX12_beside_47 rfl rfl ?_
        refine r_istore3 (pc2 := 49) dX12_beside_48 rfl rfl ?_
        refine r_iload2 (pc2 := 50) dX12_beside_49 rfl ?_
        refine r_iflt (tgt := 69) (pc2 := 53) dX12_beside_50 rfl (by decide) ⟨by omega, by omega⟩ (fun b_50 => ?_) (fun b_50 => ?_)
        · refine r_iconst (pc2 := 70) dX12_beside_69 rfl ?_
          refine r_goto (tgt := 79) dX12_beside_70 (by decide) ?_
          refine r_ireti dX12_beside_79 rfl ?_
          refine ⟨?_, rfl⟩
          congr 3
          unfold bs
          (repeat' split) <;> omega
        · refine r_iload2 (pc2 := 54) dX12_beside_53 rfl ?_
          refine r_bipush (pc2 := 56) dX12_beside_54 rfl (by decide) (by decide) ?_
          refine r_icge (tgt := 69) (pc2 := 59) dX12_beside_56 rfl (by decide) ⟨by omega, by omega⟩ ⟨by omega, by omega⟩ (fun b_56 => ?_) (fun b_56 => ?_)
          · refine r_iconst (pc2 := 70) dX12_beside_69 rfl ?_
            refine r_goto (tgt := 79) dX12_beside_70 (by decide) ?_
            refine r_ireti dX12_beside_79 rfl ?_
            refine ⟨?_, rfl⟩
            congr 3
            unfold bs
            (repeat' split) <;> omega
          · refine r_iload3 (pc2 := 60) dX12_beside_59 rfl ?_
            refine r_iflt (tgt := 69) (pc2 := 63) dX12_beside_60 rfl (by decide) ⟨by omega, by omega⟩ (fun b_60 => ?_) (fun b_60 => ?_)
            · refine r_iconst (pc2 := 70) dX12_beside_69 rfl ?_
              refine r_goto (tgt := 79) dX12_beside_70 (by decide) ?_
              refine r_ireti dX12_beside_79 rfl ?_
              refine ⟨?_, rfl⟩
              congr 3
              unfold bs
              (repeat' split) <;> omega
            · refine r_iload3 (pc2 := 64) dX12_beside_63 rfl ?_
              refine r_bipush (pc2 := 66) dX12_beside_64 rfl (by decide) (by decide) ?_
              refine r_iclt (tgt := 73) (pc2 := 69) dX12_beside_66 rfl (by decide) ⟨by omega, by omega⟩ ⟨by omega, by omega⟩ (fun b_66 => ?_) (fun b_66 => ?_)
              · refine r_bipush (pc2 := 75) dX12_beside_73 rfl (by decide) (by decide) ?_
                refine r_iload3 (pc2 := 76) dX12_beside_75 rfl ?_
                refine r_imul (c := (13 * ((((p : Nat) : Int) / 13) + (-1)))) (pc2 := 77) dX12_beside_76 rfl rfl ?_
                refine r_iload2 (pc2 := 78) dX12_beside_77 rfl ?_
                refine r_iadd (c := ((13 * ((((p : Nat) : Int) / 13) + (-1))) + ((((p : Nat) : Int) % 13) + 1))) (pc2 := 79) dX12_beside_78 rfl rfl ?_
                refine r_ireti dX12_beside_79 rfl ?_
                refine ⟨?_, rfl⟩
                congr 3
                unfold bs
                (repeat' split) <;> omega
              · refine r_iconst (pc2 := 70) dX12_beside_69 rfl ?_
                refine r_goto (tgt := 79) dX12_beside_70 (by decide) ?_
                refine r_ireti dX12_beside_79 rfl ?_
                refine ⟨?_, rfl⟩
                congr 3
                unfold bs
                (repeat' split) <;> omega
  · refine r_iconst (pc2 := 9) dX12_beside_8 rfl ?_
    refine r_goto (tgt := 22) dX12_beside_9 (by decide) ?_
    refine r_iadd (c := ((((p : Nat) : Int) % 13) + (-1))) (pc2 := 23) dX12_beside_22 rfl rfl ?_
    refine r_istore2 (pc2 := 24) dX12_beside_23 rfl rfl ?_
    refine r_iload0 (pc2 := 25) dX12_beside_24 rfl ?_
    refine r_bipush (pc2 := 27) dX12_beside_25 rfl (by decide) (by decide) ?_
    refine r_idiv (pc2 := 28) dX12_beside_27 rfl (by omega) (by omega) (by omega) (by omega) ?_
    refine r_iload1 (pc2 := 29) dX12_beside_28 rfl ?_
    refine r_iconst (pc2 := 30) dX12_beside_29 rfl ?_
    refine r_icne (tgt := 37) (pc2 := 33) dX12_beside_30 rfl (by decide) ⟨by omega, by omega⟩ ⟨by omega, by omega⟩ (fun b_30 => ?_) (fun b_30 => ?_)
    · refine r_iload1 (pc2 := 38) dX12_beside_37 rfl ?_
      refine r_iconst (pc2 := 39) dX12_beside_38 rfl ?_
      refine r_icne (tgt := 46) (pc2 := 42) dX12_beside_39 rfl (by decide) ⟨by omega, by omega⟩ ⟨by omega, by omega⟩ (fun b_39 => ?_) (fun b_39 => ?_)
      · refine r_iconst (pc2 := 47) dX12_beside_46 rfl ?_
        refine r_iadd (c := ((((p : Nat) : Int) / 13) + 0)) (pc2 := 48) dX12_beside_47 rfl rfl ?_
        refine r_istore3 (pc2 := 49) dX12_beside_48 rfl rfl ?_
        refine r_iload2 (pc2 := 50) dX12_beside_49 rfl ?_
        refine r_iflt (tgt := 69) (pc2 := 53) dX12_beside_50 rfl (by decide) ⟨by omega, by omega⟩ (fun b_50 => ?_) (fun b_50 => ?_)
        · refine r_iconst (pc2 := 70) dX12_beside_69 rfl ?_
          refine r_goto (tgt := 79) dX12_beside_70 (by decide) ?_
          refine r_ireti dX12_beside_79 rfl ?_
          refine ⟨?_, rfl⟩
          congr 3
          unfold bs
          (repeat' split) <;> omega
        · refine r_iload2 (pc2 := 54) dX12_beside_53 rfl ?_
          refine r_bipush (pc2 := 56) dX12_beside_54 rfl (by decide) (by decide) ?_
          refine r_icge (tgt := 69) (pc2 := 59) dX12_beside_56 rfl (by decide) ⟨by omega, by omega⟩ ⟨by omega, by omega⟩ (fun b_56 => ?_) (fun b_56 => ?_)
          · refine r_iconst (pc2 := 70) dX12_beside_69 rfl ?_
            refine r_goto (tgt := 79) dX12_beside_70 (by decide) ?_
            refine r_ireti dX12_beside_79 rfl ?_
            refine ⟨?_, rfl⟩
            congr 3
            unfold bs
            (repeat' split) <;> omega
          · refine r_iload3 (pc2 := 60) dX12_beside_59 rfl ?_
            refine r_iflt (tgt := 69) (pc2 := 63) dX12_beside_60 rfl (by decide) ⟨by omega, by omega⟩ (fun b_60 => ?_) (fun b_60 => ?_)
            · refine r_iconst (pc2 := 70) dX12_beside_69 rfl ?_
              refine r_goto (tgt := 79) dX12_beside_70 (by decide) ?_
              refine r_ireti dX12_beside_79 rfl ?_
              refine ⟨?_, rfl⟩
              congr 3
              unfold bs
              (repeat' split) <;> omega
            · refine r_iload3 (pc2 := 64) dX12_beside_63 rfl ?_
              refine r_bipush (pc2 := 66) dX12_beside_64 rfl (by decide) (by decide) ?_
              refine r_iclt (tgt := 73) (pc2 := 69) dX12_beside_66 rfl (by decide) ⟨by omega, by omega⟩ ⟨by omega, by omega⟩ (fun b_66 => ?_) (fun b_66 => ?_)
              · refine r_bipush (pc2 := 75) dX12_beside_73 rfl (by decide) (by decide) ?_
                refine r_iload3 (pc2 := 76) dX12_beside_75 rfl ?_
                refine r_imul (c := (13 * ((((p : Nat) : Int) / 13) + 0))) (pc2 := 77) dX12_beside_76 rfl rfl ?_
                refine r_iload2 (pc2 := 78) dX12_beside_77 rfl ?_
                refine r_iadd (c := ((13 * ((((p : Nat) : Int) / 13) + 0)) + ((((p : Nat) : Int) % 13) + (-1)))) (pc2 := 79) dX12_beside_78 rfl rfl ?_
                refine r_ireti dX12_beside_79 rfl ?_
                refine ⟨?_, rfl⟩
                congr 3
                unfold bs
                (repeat' split) <;> omega
              · refine r_iconst (pc2 := 70) dX12_beside_69 rfl ?_
                refine r_goto (tgt := 79) dX12_beside_70 (by decide) ?_
                refine r_ireti dX12_beside_79 rfl ?_
                refine ⟨?_, rfl⟩
                congr 3
                unfold bs
                (repeat' split) <;> omega
      · refine r_iconst (pc2 := 43) dX12_beside_42 rfl ?_
        refine r_goto (tgt := 47) dX12_beside_43 (by decide) ?_
        refine r_iadd (c := ((((p : Nat) : Int) / 13) + 1)) (pc2 := 48) dX12_beside_47 rfl rfl ?_
        refine r_istore3 (pc2 := 49) dX12_beside_48 rfl rfl ?_
        refine r_iload2 (pc2 := 50) dX12_beside_49 rfl ?_
        refine r_iflt (tgt := 69) (pc2 := 53) dX12_beside_50 rfl (by decide) ⟨by omega, by omega⟩ (fun b_50 => ?_) (fun b_50 => ?_)
        · refine r_iconst (pc2 := 70) dX12_beside_69 rfl ?_
          refine r_goto (tgt := 79) dX12_beside_70 (by decide) ?_
          refine r_ireti dX12_beside_79 rfl ?_
          refine ⟨?_, rfl⟩
          congr 3
          unfold bs
          (repeat' split) <;> omega
        · refine r_iload2 (pc2 := 54) dX12_beside_53 rfl ?_
          refine r_bipush (pc2 := 56) dX12_beside_54 rfl (by decide) (by decide) ?_
          refine r_icge (tgt := 69) (pc2 := 59) dX12_beside_56 rfl (by decide) ⟨by omega, by omega⟩ ⟨by omega, by omega⟩ (fun b_56 => ?_) (fun b_56 => ?_)
          · refine r_iconst (pc2 := 70) dX12_beside_69 rfl ?_
            refine r_goto (tgt := 79) dX12_beside_70 (by decide) ?_
            refine r_ireti dX12_beside_79 rfl ?_
            refine ⟨?_, rfl⟩
            congr 3
            unfold bs
            (repeat' split) <;> omega
          · refine r_iload3 (pc2 := 60) dX12_beside_59 rfl ?_
            refine r_iflt (tgt := 69) (pc2 := 63) dX12_beside_60 rfl (by decide) ⟨by omega, by omega⟩ (fun b_60 => ?_) (fun b_60 => ?_)
            · refine r_iconst (pc2 := 70) dX12_beside_69 rfl ?_
              refine r_goto (tgt := 79) dX12_beside_70 (by decide) ?_
              refine r_ireti dX12_beside_79 rfl ?_
              refine ⟨?_, rfl⟩
              congr 3
              unfold bs
              (repeat' split) <;> omega
            · refine r_iload3 (pc2 := 64) dX12_beside_63 rfl ?_
              refine r_bipush (pc2 := 66) dX12_beside_64 rfl (by decide) (by decide) ?_
              refine r_iclt (tgt := 73) (pc2 := 69) dX12_beside_66 rfl (by decide) ⟨by omega, by omega⟩ ⟨by omega, by omega⟩ (fun b_66 => ?_) (fun b_66 => ?_)
              · refine r_bipush (pc2 := 75) dX12_beside_73 rfl (by decide) (by decide) ?_
                refine r_iload3 (pc2 := 76) dX12_beside_75 rfl ?_
                refine r_imul (c := (13 * ((((p : Nat) : Int) / 13) + 1))) (pc2 := 77) dX12_beside_76 rfl rfl ?_
                refine r_iload2 (pc2 := 78) dX12_beside_77 rfl ?_
                refine r_iadd (c := ((13 * ((((p : Nat) : Int) / 13) + 1)) + ((((p : Nat) : Int) % 13) + (-1)))) (pc2 := 79) dX12_beside_78 rfl rfl ?_
                refine r_ireti dX12_beside_79 rfl ?_
                refine ⟨?_, rfl⟩
                congr 3
                unfold bs
                (repeat' split) <;> omega
              · refine r_iconst (pc2 := 70) dX12_beside_69 rfl ?_
                refine r_goto (tgt := 79) dX12_beside_70 (by decide) ?_
                refine r_ireti dX12_beside_79 rfl ?_
                refine ⟨?_, rfl⟩
                congr 3
                unfold bs
                (repeat' split) <;> omega
    · refine r_iconst (pc2 := 34) dX12_beside_33 rfl ?_
      refine r_goto (tgt := 47) dX12_beside_34 (by decide) ?_
      refine r_iadd (c := ((((p : Nat) : Int) / 13) + (-1))) (pc2 := 48) dX12_beside_47 rfl rfl ?_
      refine r_istore3 (pc2 := 49) dX12_beside_48 rfl rfl ?_
      refine r_iload2 (pc2 := 50) dX12_beside_49 rfl ?_
      refine r_iflt (tgt := 69) (pc2 := 53) dX12_beside_50 rfl (by decide) ⟨by omega, by omega⟩ (fun b_50 => ?_) (fun b_50 => ?_)
      · refine r_iconst (pc2 := 70) dX12_beside_69 rfl ?_
        refine r_goto (tgt := 79) dX12_beside_70 (by decide) ?_
        refine r_ireti dX12_beside_79 rfl ?_
        refine ⟨?_, rfl⟩
        congr 3
        unfold bs
        (repeat' split) <;> omega
      · refine r_iload2 (pc2 := 54) dX12_beside_53 rfl ?_
        refine r_bipush (pc2 := 56) dX12_beside_54 rfl (by decide) (by decide) ?_
        refine r_icge (tgt := 69) (pc2 := 59) dX12_beside_56 rfl (by decide) ⟨by omega, by omega⟩ ⟨by omega, by omega⟩ (fun b_56 => ?_) (fun b_56 => ?_)
        · refine r_iconst (pc2 := 70) dX12_beside_69 rfl ?_
          refine r_goto (tgt := 79) dX12_beside_70 (by decide) ?_
          refine r_ireti dX12_beside_79 rfl ?_
          refine ⟨?_, rfl⟩
          congr 3
          unfold bs
          (repeat' split) <;> omega
        · refine r_iload3 (pc2 := 60) dX12_beside_59 rfl ?_
          refine r_iflt (tgt := 69) (pc2 := 63) dX12_beside_60 rfl (by decide) ⟨by omega, by omega⟩ (fun b_60 => ?_) (fun b_60 => ?_)
          · refine r_iconst (pc2 := 70) dX12_beside_69 rfl ?_
            refine r_goto (tgt := 79) dX12_beside_70 (by decide) ?_
            refine r_ireti dX12_beside_79 rfl ?_
            refine ⟨?_, rfl⟩
            congr 3
            unfold bs
            (repeat' split) <;> omega
          · refine r_iload3 (pc2 := 64) dX12_beside_63 rfl ?_
            refine r_bipush (pc2 := 66) dX12_beside_64 rfl (by decide) (by decide) ?_
            refine r_iclt (tgt := 73) (pc2 := 69) dX12_beside_66 rfl (by decide) ⟨by omega, by omega⟩ ⟨by omega, by omega⟩ (fun b_66 => ?_) (fun b_66 => ?_)
            · refine r_bipush (pc2 := 75) dX12_beside_73 rfl (by decide) (by decide) ?_
              refine r_iload3 (pc2 := 76) dX12_beside_75 rfl ?_
              refine r_imul (c := (13 * ((((p : Nat) : Int) / 13) + (-1)))) (pc2 := 77) dX12_beside_76 rfl rfl ?_
              refine r_iload2 (pc2 := 78) dX12_beside_77 rfl ?_
              refine r_iadd (c := ((13 * ((((p : Nat) : Int) / 13) + (-1))) + ((((p : Nat) : Int) % 13) + (-1)))) (pc2 := 79) dX12_beside_78 rfl rfl ?_
              refine r_ireti dX12_beside_79 rfl ?_
              refine ⟨?_, rfl⟩
              congr 3
              unfold bs
              (repeat' split) <;> omega
            · refine r_iconst (pc2 := 70) dX12_beside_69 rfl ?_
              refine r_goto (tgt := 79) dX12_beside_70 (by decide) ?_
              refine r_ireti dX12_beside_79 rfl ?_
              refine ⟨?_, rfl⟩
              congr 3
              unfold bs
              (repeat' split) <;> omega
set_option maxHeartbeats 4000000 in
theorem c_X12_isToothed {d : Nat} {M : pM} {b p : Nat} {z : Int} (hS : sOk M.1) (hb : b < 28) (hp : p < 156) (hz : M.2.1 328 (156 * b + p) = z) (hr : 0 ≤ z ∧ z ≤ 9) : Ct (d + 1) 0 0 yX12_isToothed [.ref 317, .int (iI ((b : Nat) : Int)), .int (iI ((p : Nat) : Int))] M (fun v M2 => v = some (.int (iI (if z = 4 ∨ z = 8 then 1 else 0))) ∧ M2 = M) := by
  refine ct_in (d := d) kX12_isToothed rfl (by decide) (Nat.le_of_ble_eq_true rfl) (by decide) ?_
  show Go (Ct d) _ yX12_isToothed cX12_isToothed (some .boolean) 0 0 0 [some (.ref 317), some (.int (iI ((b : Nat) : Int))), some (.int (iI ((p : Nat) : Int)))] [] M
  refine r_aload0 (pc2 := 1) dX12_isToothed_0 rfl ?_
  refine r_getR (pc2 := 4) dX12_isToothed_1 rfl fX12_86 (hK_317 hS) (hR_317_17 hS) ?_
  refine r_sipush (pc2 := 7) dX12_isToothed_4 rfl (by decide) (by decide) ?_
  refine r_iload1 (pc2 := 8) dX12_isToothed_7 rfl ?_
  refine r_imul (c := (156 * ((b : Nat) : Int))) (pc2 := 9) dX12_isToothed_8 rfl rfl ?_
  refine r_iload2 (pc2 := 10) dX12_isToothed_9 rfl ?_
  refine r_iadd (c := ((156 * ((b : Nat) : Int)) + ((p : Nat) : Int))) (pc2 := 11) dX12_isToothed_10 rfl rfl ?_
  refine r_iald (z := z) (pc2 := 12) dX12_isToothed_11 rfl (hK_328 hS) ((156 * b) + p) (by omega) (by omega) hz ?_
  refine r_iconst (pc2 := 13) dX12_isToothed_12 rfl ?_
  refine r_iceq (tgt := 33) (pc2 := 16) dX12_isToothed_13 rfl (by decide) ⟨by omega, by omega⟩ ⟨by omega, by omega⟩ (fun b_13 => ?_) (fun b_13 => ?_)
  · refine r_iconst (pc2 := 34) dX12_isToothed_33 rfl ?_
    refine r_goto (tgt := 38) dX12_isToothed_34 (by decide) ?_
    refine r_iretz dX12_isToothed_38 rfl (by omega) ?_
    exact ⟨by first | rfl | (rw [if_pos (by omega)]) | (rw [if_neg (by omega)]), rfl⟩
  · refine r_aload0 (pc2 := 17) dX12_isToothed_16 rfl ?_
    refine r_getR (pc2 := 20) dX12_isToothed_17 rfl fX12_86 (hK_317 hS) (hR_317_17 hS) ?_
    refine r_sipush (pc2 := 23) dX12_isToothed_20 rfl (by decide) (by decide) ?_
    refine r_iload1 (pc2 := 24) dX12_isToothed_23 rfl ?_
    refine r_imul (c := (156 * ((b : Nat) : Int))) (pc2 := 25) dX12_isToothed_24 rfl rfl ?_
    refine r_iload2 (pc2 := 26) dX12_isToothed_25 rfl ?_
    refine r_iadd (c := ((156 * ((b : Nat) : Int)) + ((p : Nat) : Int))) (pc2 := 27) dX12_isToothed_26 rfl rfl ?_
    refine r_iald (z := z) (pc2 := 28) dX12_isToothed_27 rfl (hK_328 hS) ((156 * b) + p) (by omega) (by omega) hz ?_
    refine r_bipush (pc2 := 30) dX12_isToothed_28 rfl (by decide) (by decide) ?_
    refine r_icne (tgt := 37) (pc2 := 33) dX12_isToothed_30 rfl (by decide) ⟨by omega, by omega⟩ ⟨by omega, by omega⟩ (fun b_30 => ?_) (fun b_30 => ?_)
    · refine r_iconst (pc2 := 38) dX12_isToothed_37 rfl ?_
      refine r_iretz dX12_isToothed_38 rfl (by omega) ?_
      exact ⟨by first | rfl | (rw [if_pos (by omega)]) | (rw [if_neg (by omega)]), rfl⟩
    · refine r_iconst (pc2 := 34) dX12_isToothed_33 rfl ?_
      refine r_goto (tgt := 38) dX12_isToothed_34 (by decide) ?_
      refine r_iretz dX12_isToothed_38 rfl (by omega) ?_
      exact ⟨by first | rfl | (rw [if_pos (by omega)]) | (rw [if_neg (by omega)]), rfl⟩
set_option maxHeartbeats 8000000 in
theorem lpd_findTrains {d : Nat} {Q : pQ} {b sl f i P : Nat} {pc tr0 f0 : Nat → Int} (M0 : pM) (hS0 : sOk M0.1) (hb : b < 28) (hsl : sl < 2) (hP0 : ∀ p, p < 156 → M0.2.1 328 (156 * b + p) = pc p ∧ 0 ≤ pc p ∧ pc p ≤ 9) (hf : f < 156) (hr0 : ∀ p, p < 156 → -1 ≤ tr0 p ∧ tr0 p < 156) (hPP : P < 156) (S : tS)
    (hQ : ∀ (M2 : pM) (x7 : Option Value), fr [335, 336] M0 M2 → tI pc tr0 f S → tM M2 sl f0 S → Go (Ct (d + 1)) Q yX12_findTrains cX12_findTrains none 0 0 180 [some (.ref 317), some (.int (iI ((b : Nat) : Int))), some (.int (iI ((sl : Nat) : Int))), some (.int (iI ((f : Nat) : Int))), some (.int (iI ((S.2.2 : Nat) : Int))), some (.int (iI ((i : Nat) : Int))), some (.int (iI ((4 - 0 : Nat) : Int))), x7] [] M2) :
    ∀ (n : Nat) (s : tS) (M : pM) (x7 : Option Value), n ≤ 4 → i < s.2.2 → s.2.1 i = P → tI pc tr0 f s → tM M sl f0 s → fr [335, 336] M0 M → dfo pc f P n s = S → Go (Ct (d + 1)) Q yX12_findTrains cX12_findTrains none 0 0 97 [some (.ref 317), some (.int (iI ((b : Nat) : Int))), some (.int (iI ((sl : Nat) : Int))), some (.int (iI ((f : Nat) : Int))), some (.int (iI ((s.2.2 : Nat) : Int))), some (.int (iI ((i : Nat) : Int))), some (.int (iI ((4 - n : Nat) : Int))), x7] [] M := by
  intro n
  induction n with
  | zero =>
    intro s M x7 hn hi hq hI hR hfr hT
    have hS := hfr.ok hS0
    have hT : s = S := hT
    subst hT
    refine r_iload6 (pc2 := 99) dX12_findTrains_97 rfl ?_
    refine r_iconst (pc2 := 100) dX12_findTrains_99 rfl ?_
    refine r_icge (tgt := 180) (pc2 := 103) dX12_findTrains_100 rfl (by decide) ⟨by omega, by omega⟩ ⟨by omega, by omega⟩ (fun b_100 => ?_) (fun b_100 => ?_)
    · exact hQ M x7 hfr hI hR
    · exact absurd b_100 (by omega)
  | succ n ih =>
    intro s M x7 hn hi hq hI hR hfr hT
    have hS := hfr.ok hS0
    have hn2 : 4 - (n + 1) = 3 - n := by omega
    rw [hn2]
    have hT : dfo pc f P n (rD pc f P (3 - n) s) = S := hT
    have hb1 := bs_r (k := 3 - n) hPP
    have hcu := hI.1
    have hrr := tI_r hI hf hr0
    have hD := rD_I (k := 3 - n) hI hPP
    have hrb : 0 ≤ bs P (3 - n) → -1 ≤ s.1 (bs P (3 - n)).toNat ∧ s.1 (bs P (3 - n)).toNat < 156 := fun h => hrr _ (by omega)
    have hcp : 0 ≤ bs P (3 - n) → s.1 (bs P (3 - n)).toNat = -1 → s.2.2 < 156 := fun h1 h2 => by have := cu_pos (tr := s.1) (n := 156) (p := (bs P (3 - n)).toNat) (by omega) h2; omega
    have q336 : M.2.1 336 i = ((P : Nat) : Int) := by rw [hR.2 i hi, hq]
    have hP : ∀ p, p < 156 → M.2.1 328 (156 * b + p) = pc p ∧ 0 ≤ pc p ∧ pc p ≤ 9 := fun p hp => by rw [hfr.i (by decide)]; exact hP0 p hp
    have q335 : ∀ p, p < 156 → M.2.1 335 (156 * sl + p) = s.1 p := fun p hp => by rw [hR.1, sB_in hp]
    refine r_iload6 (pc2 := 99) dX12_findTrains_97 rfl ?_
    refine r_iconst (pc2 := 100) dX12_findTrains_99 rfl ?_
    refine r_icge (tgt := 180) (pc2 := 103) dX12_findTrains_100 rfl (by decide) ⟨by omega, by omega⟩ ⟨by omega, by omega⟩ (fun b_100 => ?_) (fun b_100 => ?_)
    · exact absurd b_100 (by omega)
    · refine r_aload0 (pc2 := 104) dX12_findTrains_103 rfl ?_
      refine r_getR (pc2 := 107) dX12_findTrains_104 rfl fX12_110 (hK_317 hS) (hR_317_30 hS) ?_
      refine r_iload5 (pc2 := 109) dX12_findTrains_107 rfl ?_
      refine r_iald (z := ((P : Nat) : Int)) (pc2 := 110) dX12_findTrains_109 rfl (hK_336 hS) i rfl (by omega) q336 ?_
      refine r_iload6 (pc2 := 112) dX12_findTrains_110 rfl ?_
      refine r_cs2 (pc2 := 115) dX12_findTrains_112 rfl sX12_295 (by decide) (c_X12_beside (d := d) (p := P) (k := 3 - n) hPP (by omega)) ?_
      rintro _ M9 ⟨rfl, h9⟩
      rw [h9]
      show Go (Ct (d + 1)) _ yX12_findTrains cX12_findTrains none 0 0 115 [some (.ref 317), some (.int (iI ((b : Nat) : Int))), some (.int (iI ((sl : Nat) : Int))), some (.int (iI ((f : Nat) : Int))), some (.int (iI ((s.2.2 : Nat) : Int))), some (.int (iI ((i : Nat) : Int))), some (.int (iI ((3 - n : Nat) : Int))), x7] [.int (iI (bs P (3 - n)))] M
      refine r_istore7 (pc2 := 117) dX12_findTrains_115 rfl rfl ?_
      refine r_iload7 (pc2 := 119) dX12_findTrains_117 rfl ?_
      refine r_iflt (tgt := 174) (pc2 := 122) dX12_findTrains_119 rfl (by decide) ⟨by omega, by omega⟩ (fun b_119 => ?_) (fun b_119 => ?_)
      · refine r_iinc6 (z := (((3 - n : Nat) : Int) + 1)) (pc2 := 177) dX12_findTrains_174 rfl rfl rfl ?_
        refine r_goto (tgt := 97) dX12_findTrains_177 (by decide) ?_
        have e0 : rD pc f P (3 - n) s = s := if_neg (by rintro ⟨g1, g2, g3⟩; omega)
        rw [e0] at hT
        rw [show ((3 - n : Nat) : Int) + 1 = ((4 - n : Nat) : Int) by omega]
        exact ih s M _ (by omega) hi hq hI hR hfr hT
      · refine r_aload0 (pc2 := 123) dX12_findTrains_122 rfl ?_
        refine r_iload1 (pc2 := 124) dX12_findTrains_123 rfl ?_
        refine r_iload7 (pc2 := 126) dX12_findTrains_124 rfl ?_
        refine r_cv2 (pc2 := 129) dX12_findTrains_126 rfl vX12_291 (hK_317 hS) (by decide) (by have h8 := (c_X12_isToothed (d := d) (b := b) (p := (bs P (3 - n)).toNat) (z := pc (bs P (3 - n)).toNat) hS hb (by omega) (hP _ (by omega)).1 (hP _ (by omega)).2); rw [show (((bs P (3 - n)).toNat : Nat) : Int) = (bs P (3 - n)) by omega] at h8; exact h8) ?_
        rintro _ M9 ⟨rfl, h9⟩
        rw [h9]
        show Go (Ct (d + 1)) _ yX12_findTrains cX12_findTrains none 0 0 129 [some (.ref 317), some (.int (iI ((b : Nat) : Int))), some (.int (iI ((sl : Nat) : Int))), some (.int (iI ((f : Nat) : Int))), some (.int (iI ((s.2.2 : Nat) : Int))), some (.int (iI ((i : Nat) : Int))), some (.int (iI ((3 - n : Nat) : Int))), some (.int (iI (bs P (3 - n))))] [.int (iI (if pc (bs P (3 - n)).toNat = 4 ∨ pc (bs P (3 - n)).toNat = 8 then 1 else 0))] M
        refine r_ifeq (tgt := 174) (pc2 := 132) dX12_findTrains_129 rfl (by decide) ⟨by omega, by omega⟩ (fun b_129 => ?_) (fun b_129 => ?_)
        · refine r_iinc6 (z := (((3 - n : Nat) : Int) + 1)) (pc2 := 177) dX12_findTrains_174 rfl rfl rfl ?_
          refine r_goto (tgt := 97) dX12_findTrains_177 (by decide) ?_
          have e0 : rD pc f P (3 - n) s = s := if_neg (by rintro ⟨g1, g2, g3⟩; rw [if_pos g3] at b_129; omega)
          rw [e0] at hT
          rw [show ((3 - n : Nat) : Int) + 1 = ((4 - n : Nat) : Int) by omega]
          exact ih s M _ (by omega) hi hq hI hR hfr hT
        · refine r_aload0 (pc2 := 133) dX12_findTrains_132 rfl ?_
          refine r_getR (pc2 := 136) dX12_findTrains_133 rfl fX12_107 (hK_317 hS) (hR_317_29 hS) ?_
          refine r_sipush (pc2 := 139) dX12_findTrains_136 rfl (by decide) (by decide) ?_
          refine r_iload2 (pc2 := 140) dX12_findTrains_139 rfl ?_
          refine r_imul (c := (156 * ((sl : Nat) : Int))) (pc2 := 141) dX12_findTrains_140 rfl rfl ?_
          refine r_iload7 (pc2 := 143) dX12_findTrains_141 rfl ?_
          refine r_iadd (c := ((156 * ((sl : Nat) : Int)) + (bs P (3 - n)))) (pc2 := 144) dX12_findTrains_143 rfl rfl ?_
          refine r_iald (z := (s.1 (bs P (3 - n)).toNat)) (pc2 := 145) dX12_findTrains_144 rfl (hK_335 hS) (156 * sl + (bs P (3 - n)).toNat) (by omega) (by omega) (q335 _ (by omega)) ?_
          refine r_ifge (tgt := 174) (pc2 := 148) dX12_findTrains_145 rfl (by decide) ⟨by omega, by omega⟩ (fun b_145 => ?_) (fun b_145 => ?_)
          · refine r_iinc6 (z := (((3 - n : Nat) : Int) + 1)) (pc2 := 177) dX12_findTrains_174 rfl rfl rfl ?_
            refine r_goto (tgt := 97) dX12_findTrains_177 (by decide) ?_
            have e0 : rD pc f P (3 - n) s = s := if_neg (by rintro ⟨g1, g2, g3⟩; omega)
            rw [e0] at hT
            rw [show ((3 - n : Nat) : Int) + 1 = ((4 - n : Nat) : Int) by omega]
            exact ih s M _ (by omega) hi hq hI hR hfr hT
          · refine r_aload0 (pc2 := 149) dX12_findTrains_148 rfl ?_
            refine r_getR (pc2 := 152) dX12_findTrains_149 rfl fX12_107 (hK_317 hS) (hR_317_29 hS) ?_
            refine r_sipush (pc2 := 155) dX12_findTrains_152 rfl (by decide) (by decide) ?_
            refine r_iload2 (pc2 := 156) dX12_findTrains_155 rfl ?_
            refine r_imul (c := (156 * ((sl : Nat) : Int))) (pc2 := 157) dX12_findTrains_156 rfl rfl ?_
            refine r_iload7 (pc2 := 159) dX12_findTrains_157 rfl ?_
            refine r_iadd (c := ((156 * ((sl : Nat) : Int)) + (bs P (3 - n)))) (pc2 := 160) dX12_findTrains_159 rfl rfl ?_
            refine r_iload3 (pc2 := 161) dX12_findTrains_160 rfl ?_
            refine r_iast (z := ((f : Nat) : Int)) (pc2 := 162) dX12_findTrains_161 rfl (hK_335 hS) (by decide) (156 * sl + (bs P (3 - n)).toNat) (by omega) (by omega) ?_
            refine r_aload0 (pc2 := 163) dX12_findTrains_162 rfl ?_
            refine r_getR (pc2 := 166) dX12_findTrains_163 rfl fX12_110 (hK_317 hS) (hR_317_30 hS) ?_
            refine r_iload4 (pc2 := 168) dX12_findTrains_166 rfl ?_
            refine r_iload7 (pc2 := 170) dX12_findTrains_168 rfl ?_
            refine r_iast (z := (bs P (3 - n))) (pc2 := 171) dX12_findTrains_170 rfl (hK_336 hS) (by decide) (s.2.2) rfl (by omega) ?_
            refine r_iinc4 (z := ((s.2.2 + 1 : Nat) : Int)) (pc2 := 174) dX12_findTrains_171 rfl (by omega) rfl ?_
            refine r_iinc6 (z := (((3 - n : Nat) : Int) + 1)) (pc2 := 177) dX12_findTrains_174 rfl rfl rfl ?_
            refine r_goto (tgt := 97) dX12_findTrains_177 (by decide) ?_
            have e0 : rD pc f P (3 - n) s = (va_up s.1 (bs P (3 - n)).toNat (f : Int), va_up s.2.1 s.2.2 (bs P (3 - n)).toNat, s.2.2 + 1) := if_pos ⟨by omega, by omega, by split at b_129 <;> omega⟩
            rw [e0] at hT hD
            rw [show ((3 - n : Nat) : Int) + 1 = ((4 - n : Nat) : Int) by omega]
            refine ih _ _ _ (by omega) (by simp only; omega) (by simp only; rw [up_ne (by omega)]; exact hq) hD.1 ⟨?_, fun k hk => ?_⟩ ((hfr.I (by decide)).I (by decide)) hT
            · rw [pI_ne (by decide), pI_eq, hR.1, sB_up (by omega)]
            · simp only at hk ⊢; by_cases e9 : k = s.2.2
              · subst e9; rw [pI_at, up_at]; omega
              · rw [pI_nk e9, up_ne e9, pI_ne (by decide)]; exact hR.2 k (by omega)
set_option maxHeartbeats 8000000 in
theorem lpi_findTrains {d : Nat} {Q : pQ} {b sl f : Nat} {pc tr0 f0 : Nat → Int} (M0 : pM) (hS0 : sOk M0.1) (hb : b < 28) (hsl : sl < 2) (hP0 : ∀ p, p < 156 → M0.2.1 328 (156 * b + p) = pc p ∧ 0 ≤ pc p ∧ pc p ≤ 9) (hf : f < 156) (hr0 : ∀ p, p < 156 → -1 ≤ tr0 p ∧ tr0 p < 156) (S : tS)
    (hQ : ∀ (M2 : pM) (i2 : Nat) (x6 x7 : Option Value), fr [335, 336] M0 M2 → tI pc tr0 f S → tM M2 sl f0 S → Go (Ct (d + 1)) Q yX12_findTrains cX12_findTrains none 0 0 186 [some (.ref 317), some (.int (iI ((b : Nat) : Int))), some (.int (iI ((sl : Nat) : Int))), some (.int (iI ((f : Nat) : Int))), some (.int (iI ((S.2.2 : Nat) : Int))), some (.int (iI ((i2 : Nat) : Int))), x6, x7] [] M2) :
    ∀ (n i : Nat) (s : tS) (M : pM) (x6 x7 : Option Value), i + n = 157 → i ≤ s.2.2 → tI pc tr0 f s → tM M sl f0 s → fr [335, 336] M0 M → tlp pc f n i s = S → Go (Ct (d + 1)) Q yX12_findTrains cX12_findTrains none 0 0 87 [some (.ref 317), some (.int (iI ((b : Nat) : Int))), some (.int (iI ((sl : Nat) : Int))), some (.int (iI ((f : Nat) : Int))), some (.int (iI ((s.2.2 : Nat) : Int))), some (.int (iI ((i : Nat) : Int))), x6, x7] [] M := by
  intro n
  induction n with
  | zero =>
    intro i s M x6 x7 hn hi hI hR hfr hT
    exact absurd hI.1 (by omega)
  | succ n ih =>
    intro i s M x6 x7 hn hi hI hR hfr hT
    have hS := hfr.ok hS0
    have hcu := hI.1
    unfold tlp at hT
    refine r_iload5 (pc2 := 89) dX12_findTrains_87 rfl ?_
    refine r_iload4 (pc2 := 91) dX12_findTrains_89 rfl ?_
    refine r_icge (tgt := 186) (pc2 := 94) dX12_findTrains_91 rfl (by decide) ⟨by omega, by omega⟩ ⟨by omega, by omega⟩ (fun b_91 => ?_) (fun b_91 => ?_)
    · rw [if_neg (by omega)] at hT
      subst hT
      exact hQ M i x6 x7 hfr hI hR
    · refine r_iconst (pc2 := 95) dX12_findTrains_94 rfl ?_
      refine r_istore6 (pc2 := 97) dX12_findTrains_95 rfl rfl ?_
      rw [if_pos (by omega)] at hT
      have hq0 := (hI.2.1 i (by omega)).1
      have hnb := nb4_I hI hq0
      refine lpd_findTrains (tr0 := tr0) (f0 := f0) M0 hS0 hb hsl hP0 hf hr0 hq0 (nb4 pc f (s.2.1 i) s) (fun M2 y7 g1 g2 g3 => ?_) 4 s M _ (by omega) (by omega) rfl hI hR hfr (dfo_4 hq0)
      refine r_iinc5 (z := ((i + 1 : Nat) : Int)) (pc2 := 183) dX12_findTrains_180 rfl (by omega) rfl ?_
      refine r_goto (tgt := 87) dX12_findTrains_183 (by decide) ?_
      exact ih (i + 1) _ M2 _ _ (by omega) (by have := hnb.2.1; omega) g2 g3 g1 hT
set_option maxHeartbeats 8000000 in
theorem lpf_findTrains {d : Nat} {Q : pQ} {b sl : Nat} {pc f0 : Nat → Int} (M0 : pM) (hS0 : sOk M0.1) (hb : b < 28) (hsl : sl < 2) (hP0 : ∀ p, p < 156 → M0.2.1 328 (156 * b + p) = pc p ∧ 0 ≤ pc p ∧ pc p ≤ 9)
    (hQ : ∀ (M2 : pM), fr [335, 336] M0 M2 → M2.2.1 335 = sB f0 156 sl (tal pc 156) → Q none M2) :
    ∀ (n f : Nat) (M : pM) (x4 x5 x6 x7 : Option Value), f + n = 156 → fr [335, 336] M0 M → M.2.1 335 = sB f0 156 sl (tal pc f) → Go (Ct (d + 1)) Q yX12_findTrains cX12_findTrains none 0 0 30 [some (.ref 317), some (.int (iI ((b : Nat) : Int))), some (.int (iI ((sl : Nat) : Int))), some (.int (iI ((f : Nat) : Int))), x4, x5, x6, x7] [] M := by
  intro n
  induction n with
  | zero =>
    intro f M x4 x5 x6 x7 hn hfr hm
    have hS := hfr.ok hS0
    obtain rfl : f = 156 := by omega
    refine r_iload3 (pc2 := 31) dX12_findTrains_30 rfl ?_
    refine r_sipush (pc2 := 34) dX12_findTrains_31 rfl (by decide) (by decide) ?_
    refine r_icge (tgt := 192) (pc2 := 37) dX12_findTrains_34 rfl (by decide) ⟨by omega, by omega⟩ ⟨by omega, by omega⟩ (fun b_34 => ?_) (fun b_34 => ?_)
    · refine r_ret dX12_findTrains_192 rfl ?_
      exact hQ M hfr hm
    · exact absurd b_34 (by omega)
  | succ n ih =>
    intro f M x4 x5 x6 x7 hn hfr hm
    have hS := hfr.ok hS0
    have hA := tal_A (pc := pc) f (by omega)
    have hr0 : ∀ p, p < 156 → -1 ≤ tal pc f p ∧ tal pc f p < 156 := fun p hp => by rcases hA.1 p with q | q <;> omega
    have hP : M.2.1 328 (156 * b + f) = pc f ∧ 0 ≤ pc f ∧ pc f ≤ 9 := by rw [hfr.i (by decide)]; exact hP0 f (by omega)
    have q335 : M.2.1 335 (156 * sl + f) = tal pc f f := by rw [hm, sB_in (by omega)]
    have hrf := hr0 f (by omega)
    have h0 : tI pc (tal pc f) f (tal pc f, (fun _ => 0), 0) := ⟨by simp only; have := cu_le (tal pc f) 156; omega, fun i hi => by simp only at hi; omega, fun p hp => by simp only at hp; rcases hA.1 p with q | q <;> omega, fun p _ => rfl, fun p hp => by simp only at hp; rcases hA.1 p with q | q <;> omega⟩
    have hI1 := (rch_I (ok := True) (pl := f) h0 (fun _ => by omega)).1
    have et : tal pc (f + 1) = (tlp pc f 157 0 (rch pc f True f (tal pc f, (fun _ => 0), 0))).1 := rfl
    refine r_iload3 (pc2 := 31) dX12_findTrains_30 rfl ?_
    refine r_sipush (pc2 := 34) dX12_findTrains_31 rfl (by decide) (by decide) ?_
    refine r_icge (tgt := 192) (pc2 := 37) dX12_findTrains_34 rfl (by decide) ⟨by omega, by omega⟩ ⟨by omega, by omega⟩ (fun b_34 => ?_) (fun b_34 => ?_)
    · refine r_ret dX12_findTrains_192 rfl ?_
      exact absurd b_34 (by omega)
    · refine r_aload0 (pc2 := 38) dX12_findTrains_37 rfl ?_
      refine r_iload1 (pc2 := 39) dX12_findTrains_38 rfl ?_
      refine r_iload3 (pc2 := 40) dX12_findTrains_39 rfl ?_
      refine r_cv2 (pc2 := 43) dX12_findTrains_40 rfl vX12_291 (hK_317 hS) (by decide) (c_X12_isToothed (d := d) (b := b) (p := f) (z := pc f) hS hb (by omega) hP.1 hP.2) ?_
      rintro _ M9 ⟨rfl, h9⟩
      rw [h9]
      show Go (Ct (d + 1)) _ yX12_findTrains cX12_findTrains none 0 0 43 [some (.ref 317), some (.int (iI ((b : Nat) : Int))), some (.int (iI ((sl : Nat) : Int))), some (.int (iI ((f : Nat) : Int))), x4, x5, x6, x7] [.int (iI (if pc f = 4 ∨ pc f = 8 then 1 else 0))] M
      refine r_ifeq (tgt := 186) (pc2 := 46) dX12_findTrains_43 rfl (by decide) ⟨by omega, by omega⟩ (fun b_43 => ?_) (fun b_43 => ?_)
      · refine r_iinc3 (z := ((f + 1 : Nat) : Int)) (pc2 := 189) dX12_findTrains_186 rfl (by omega) rfl ?_
        refine r_goto (tgt := 30) dX12_findTrains_189 (by decide) ?_
        have e0 : rch pc f True f (tal pc f, (fun _ => 0), 0) = (tal pc f, (fun _ => 0), 0) := if_neg (by rintro ⟨g1, g2, g3⟩; simp only at g2; rw [if_pos g3] at b_43; omega)
        rw [e0] at et
        have et2 : tal pc (f + 1) = tal pc f := by rw [et]; rfl
        exact ih (f + 1) M _ _ _ _ (by omega) hfr (by rw [et2]; exact hm)
      · refine r_aload0 (pc2 := 47) dX12_findTrains_46 rfl ?_
        refine r_getR (pc2 := 50) dX12_findTrains_47 rfl fX12_107 (hK_317 hS) (hR_317_29 hS) ?_
        refine r_sipush (pc2 := 53) dX12_findTrains_50 rfl (by decide) (by decide) ?_
        refine r_iload2 (pc2 := 54) dX12_findTrains_53 rfl ?_
        refine r_imul (c := (156 * ((sl : Nat) : Int))) (pc2 := 55) dX12_findTrains_54 rfl rfl ?_
        refine r_iload3 (pc2 := 56) dX12_findTrains_55 rfl ?_
        refine r_iadd (c := ((156 * ((sl : Nat) : Int)) + ((f : Nat) : Int))) (pc2 := 57) dX12_findTrains_56 rfl rfl ?_
        refine r_iald (z := (tal pc f f)) (pc2 := 58) dX12_findTrains_57 rfl (hK_335 hS) ((156 * sl) + f) (by omega) (by omega) q335 ?_
        refine r_ifge (tgt := 186) (pc2 := 61) dX12_findTrains_58 rfl (by decide) ⟨by omega, by omega⟩ (fun b_58 => ?_) (fun b_58 => ?_)
        · refine r_iinc3 (z := ((f + 1 : Nat) : Int)) (pc2 := 189) dX12_findTrains_186 rfl (by omega) rfl ?_
          refine r_goto (tgt := 30) dX12_findTrains_189 (by decide) ?_
          have e0 : rch pc f True f (tal pc f, (fun _ => 0), 0) = (tal pc f, (fun _ => 0), 0) := if_neg (by rintro ⟨g1, g2, g3⟩; simp only at g2; omega)
          rw [e0] at et
          have et2 : tal pc (f + 1) = tal pc f := by rw [et]; rfl
          exact ih (f + 1) M _ _ _ _ (by omega) hfr (by rw [et2]; exact hm)
        · refine r_iconst (pc2 := 62) dX12_findTrains_61 rfl ?_
          refine r_istore4 (pc2 := 64) dX12_findTrains_62 rfl rfl ?_
          refine r_aload0 (pc2 := 65) dX12_findTrains_64 rfl ?_
          refine r_getR (pc2 := 68) dX12_findTrains_65 rfl fX12_110 (hK_317 hS) (hR_317_30 hS) ?_
          refine r_iconst (pc2 := 69) dX12_findTrains_68 rfl ?_
          refine r_iload3 (pc2 := 70) dX12_findTrains_69 rfl ?_
          refine r_iast (z := ((f : Nat) : Int)) (pc2 := 71) dX12_findTrains_70 rfl (hK_336 hS) (by decide) 0 rfl (by omega) ?_
          refine r_aload0 (pc2 := 72) dX12_findTrains_71 rfl ?_
          refine r_getR (pc2 := 75) dX12_findTrains_72 rfl fX12_107 (hK_317 hS) (hR_317_29 hS) ?_
          refine r_sipush (pc2 := 78) dX12_findTrains_75 rfl (by decide) (by decide) ?_
          refine r_iload2 (pc2 := 79) dX12_findTrains_78 rfl ?_
          refine r_imul (c := (156 * ((sl : Nat) : Int))) (pc2 := 80) dX12_findTrains_79 rfl rfl ?_
          refine r_iload3 (pc2 := 81) dX12_findTrains_80 rfl ?_
          refine r_iadd (c := ((156 * ((sl : Nat) : Int)) + ((f : Nat) : Int))) (pc2 := 82) dX12_findTrains_81 rfl rfl ?_
          refine r_iload3 (pc2 := 83) dX12_findTrains_82 rfl ?_
          refine r_iast (z := ((f : Nat) : Int)) (pc2 := 84) dX12_findTrains_83 rfl (hK_335 hS) (by decide) ((156 * sl) + f) (by omega) (by omega) ?_
          refine r_iconst (pc2 := 85) dX12_findTrains_84 rfl ?_
          refine r_istore5 (pc2 := 87) dX12_findTrains_85 rfl rfl ?_
          have e0 : rch pc f True f (tal pc f, (fun _ => 0), 0) = (va_up (tal pc f) f (f : Int), va_up (fun _ => 0) 0 f, 1) := if_pos ⟨trivial, by simp only; omega, by split at b_43 <;> omega⟩
          rw [e0] at hI1 et
          refine lpi_findTrains (tr0 := tal pc f) (f0 := f0) M0 hS0 hb hsl hP0 (by omega) hr0 _ (fun M2 i2 y6 y7 g1 g2 g3 => ?_) 157 0 (va_up (tal pc f) f (f : Int), va_up (fun _ => 0) 0 f, 1) _ _ _ (by omega) (by simp only; omega) hI1 ⟨?_, fun k hk => ?_⟩ ((hfr.I (by decide)).I (by decide)) rfl
          · refine r_iinc3 (z := ((f + 1 : Nat) : Int)) (pc2 := 189) dX12_findTrains_186 rfl (by omega) rfl ?_
            refine r_goto (tgt := 30) dX12_findTrains_189 (by decide) ?_
            exact ih (f + 1) M2 _ _ _ _ (by omega) g1 (by rw [et]; exact g3.1)
          · rw [pI_eq, pI_ne (by decide), hm, sB_up (by omega)]
          · simp only at hk
            obtain rfl : k = 0 := by omega
            rw [pI_ne (by decide), pI_at]
            show (f : Int) = ((va_up (fun _ => 0) 0 f 0 : Nat) : Int)
            rw [up_at]
set_option maxHeartbeats 8000000 in
theorem lp0_findTrains {d : Nat} {Q : pQ} {b sl : Nat} {pc : Nat → Int} (M0 : pM) (hS0 : sOk M0.1) (hb : b < 28) (hsl : sl < 2) (hP0 : ∀ p, p < 156 → M0.2.1 328 (156 * b + p) = pc p ∧ 0 ≤ pc p ∧ pc p ≤ 9)
    (hQ : ∀ (M2 : pM), fr [335, 336] M0 M2 → M2.2.1 335 = sB (M0.2.1 335) 156 sl (tal pc 156) → Q none M2) :
    ∀ (n f : Nat) (M : pM), f + n = 156 → fr [335, 336] M0 M → M.2.1 335 = sB (M0.2.1 335) 156 sl (fun p => if p < f then -1 else M0.2.1 335 (156 * sl + p)) → Go (Ct (d + 1)) Q yX12_findTrains cX12_findTrains none 0 0 2 [some (.ref 317), some (.int (iI ((b : Nat) : Int))), some (.int (iI ((sl : Nat) : Int))), some (.int (iI ((f : Nat) : Int))), none, none, none, none] [] M := by
  intro n
  induction n with
  | zero =>
    intro f M hn hfr hm
    have hS := hfr.ok hS0
    obtain rfl : f = 156 := by omega
    refine r_iload3 (pc2 := 3) dX12_findTrains_2 rfl ?_
    refine r_sipush (pc2 := 6) dX12_findTrains_3 rfl (by decide) (by decide) ?_
    refine r_icge (tgt := 28) (pc2 := 9) dX12_findTrains_6 rfl (by decide) ⟨by omega, by omega⟩ ⟨by omega, by omega⟩ (fun b_6 => ?_) (fun b_6 => ?_)
    · refine r_iconst (pc2 := 29) dX12_findTrains_28 rfl ?_
      refine r_istore3 (pc2 := 30) dX12_findTrains_29 rfl rfl ?_
      exact lpf_findTrains (f0 := M0.2.1 335) M0 hS0 hb hsl hP0 hQ 156 0 M _ _ _ _ (by omega) hfr (by rw [hm]; exact sB_congr (fun p hp => if_pos hp))
    · exact absurd b_6 (by omega)
  | succ n ih =>
    intro f M hn hfr hm
    have hS := hfr.ok hS0
    refine r_iload3 (pc2 := 3) dX12_findTrains_2 rfl ?_
    refine r_sipush (pc2 := 6) dX12_findTrains_3 rfl (by decide) (by decide) ?_
    refine r_icge (tgt := 28) (pc2 := 9) dX12_findTrains_6 rfl (by decide) ⟨by omega, by omega⟩ ⟨by omega, by omega⟩ (fun b_6 => ?_) (fun b_6 => ?_)
    · refine r_iconst (pc2 := 29) dX12_findTrains_28 rfl ?_
      refine r_istore3 (pc2 := 30) dX12_findTrains_29 rfl rfl ?_
      exact absurd b_6 (by omega)
    · refine r_aload0 (pc2 := 10) dX12_findTrains_9 rfl ?_
      refine r_getR (pc2 := 13) dX12_findTrains_10 rfl fX12_107 (hK_317 hS) (hR_317_29 hS) ?_
      refine r_sipush (pc2 := 16) dX12_findTrains_13 rfl (by decide) (by decide) ?_
      refine r_iload2 (pc2 := 17) dX12_findTrains_16 rfl ?_
      refine r_imul (c := (156 * ((sl : Nat) : Int))) (pc2 := 18) dX12_findTrains_17 rfl rfl ?_
      refine r_iload3 (pc2 := 19) dX12_findTrains_18 rfl ?_
      refine r_iadd (c := ((156 * ((sl : Nat) : Int)) + ((f : Nat) : Int))) (pc2 := 20) dX12_findTrains_19 rfl rfl ?_
      refine r_iconst (pc2 := 21) dX12_findTrains_20 rfl ?_
      refine r_iast (z := (-1)) (pc2 := 22) dX12_findTrains_21 rfl (hK_335 hS) (by decide) ((156 * sl) + f) (by omega) (by omega) ?_
      refine r_iinc3 (z := ((f + 1 : Nat) : Int)) (pc2 := 25) dX12_findTrains_22 rfl (by omega) rfl ?_
      refine r_goto (tgt := 2) dX12_findTrains_25 (by decide) ?_
      refine ih (f + 1) _ (by omega) (hfr.I (by decide)) ?_
      rw [pI_eq, hm, sB_up (by omega)]
      refine sB_congr (fun p hp => ?_)
      by_cases e9 : p = f
      · subst e9; rw [up_at, if_pos (by omega)]
      · rw [up_ne e9]; by_cases e8 : p < f
        · rw [if_pos e8, if_pos (by omega)]
        · rw [if_neg e8, if_neg (by omega)]
set_option maxHeartbeats 4000000 in
theorem c_X12_findTrains {d : Nat} {M : pM} {b sl : Nat} {pc : Nat → Int} (hS : sOk M.1) (hb : b < 28) (hsl : sl < 2) (hP : ∀ p, p < 156 → M.2.1 328 (156 * b + p) = pc p ∧ 0 ≤ pc p ∧ pc p ≤ 9) : Ct (d + 2) 0 0 yX12_findTrains [.ref 317, .int (iI ((b : Nat) : Int)), .int (iI ((sl : Nat) : Int))] M (fun v M2 => v = none ∧ fr [335, 336] M M2 ∧ M2.2.1 335 = sB (M.2.1 335) 156 sl (tal pc 156)) := by
  refine ct_in (d := (d + 1)) kX12_findTrains rfl (by decide) (Nat.le_of_ble_eq_true rfl) (by decide) ?_
  show Go (Ct (d + 1)) _ yX12_findTrains cX12_findTrains none 0 0 0 [some (.ref 317), some (.int (iI ((b : Nat) : Int))), some (.int (iI ((sl : Nat) : Int))), none, none, none, none, none] [] M
  refine r_iconst (pc2 := 1) dX12_findTrains_0 rfl ?_
  refine r_istore3 (pc2 := 2) dX12_findTrains_1 rfl rfl ?_
  exact lp0_findTrains (pc := pc) M hS hb hsl hP (fun M2 h1 h2 => ⟨rfl, h1, h2⟩) 156 0 M (by omega) fr.rf (sB_of (fun p _ => (if_neg (by omega)).symm))
