/-! the constructors -/
set_option maxHeartbeats 4000000 in
theorem c_X1_init {d : Nat} {M : pM}  (hf : FR M 254 1) : Ct (d + 1) 1 100 yX1_init [.ref 254] M (fun v M2 => v = none ∧ GW M M2 254 256) := by
  refine ct_in (d := d) kX1_init rfl (by decide) (Nat.le_of_ble_eq_true rfl) (by decide) ?_
  show Go (Ct d) _ yX1_init cX1_init none 1 100 0 [some (.ref 254)] [] M
  have kk0 := hf.2.1
  have l0 : 254 < M.1.1 := by rw [hf.1]; omega
  refine r_aload0 (pc2 := 1) dX1_init_0 rfl ?_
  refine go_oini dX1_init_1 oX1_3 (by decide) ?_
  refine r_aload0 (pc2 := 5) dX1_init_4 rfl ?_
  refine r_bipush (pc2 := 7) dX1_init_5 rfl (by decide) (by decide) ?_
  refine r_nap (t := 2) (n := 100) (kc := 0) (ks := 0) (pc1 := 9) (pc2 := 12) dX1_init_7 rfl (Or.inl ⟨rfl, rfl⟩) rfl (by decide) dX1_init_9 rfl fX1_11 (wf1_0 rfl rfl) kk0 (by decide) l0 (fun M1 e1 k1 l1 => ?_)
  refine r_ret dX1_init_12 rfl ?_
  refine ⟨rfl, (GWa.nd hf (show M1 = nd 254 M [(2, 100, 0)] by rw [e1]; rfl) (by decide +kernel) (by decide +kernel)).eq rfl (fun j => ?_) (fun j => (z0_0 (by decide)).symm)⟩
  match j with
  | 0 => rfl
  | j + 1 => simp only [ndr]; rw [up_ne (by omega)]; rfl
set_option maxHeartbeats 4000000 in
theorem c_X6_init {d : Nat} {M : pM}  (hf : FR M 256 6) : Ct (d + 1) 6 28192 yX6_init [.ref 256] M (fun v M2 => v = none ∧ GW M M2 256 263) := by
  refine ct_in (d := d) kX6_init rfl (by decide) (Nat.le_of_ble_eq_true rfl) (by decide) ?_
  show Go (Ct d) _ yX6_init cX6_init none 6 28192 0 [some (.ref 256)] [] M
  have kk0 := hf.2.1
  have l0 : 256 < M.1.1 := by rw [hf.1]; omega
  refine r_aload0 (pc2 := 1) dX6_init_0 rfl ?_
  refine go_oini dX6_init_1 oX6_3 (by decide) ?_
  refine r_aload0 (pc2 := 5) dX6_init_4 rfl ?_
  refine r_sipush (pc2 := 8) dX6_init_5 rfl (by decide) (by decide) ?_
  refine r_nap (t := 3) (n := 4000) (kc := 5) (ks := 24192) (pc1 := 10) (pc2 := 13) dX6_init_8 rfl (Or.inr (Or.inl ⟨rfl, rfl⟩)) rfl (by decide) dX6_init_10 rfl fX6_11 (wf6_0 rfl rfl) kk0 (by decide) l0 (fun M1 e1 k1 l1 => ?_)
  refine r_aload0 (pc2 := 14) dX6_init_13 rfl ?_
  refine r_sipush (pc2 := 17) dX6_init_14 rfl (by decide) (by decide) ?_
  refine r_nap (t := 3) (n := 4000) (kc := 4) (ks := 20192) (pc1 := 19) (pc2 := 22) dX6_init_17 rfl (Or.inr (Or.inl ⟨rfl, rfl⟩)) rfl (by decide) dX6_init_19 rfl fX6_15 (wf6_1 rfl rfl) k1 (by decide) l1 (fun M2 e2 k2 l2 => ?_)
  refine r_aload0 (pc2 := 23) dX6_init_22 rfl ?_
  refine r_sipush (pc2 := 26) dX6_init_23 rfl (by decide) (by decide) ?_
  refine r_nap (t := 2) (n := 4000) (kc := 3) (ks := 16192) (pc1 := 28) (pc2 := 31) dX6_init_26 rfl (Or.inl ⟨rfl, rfl⟩) rfl (by decide) dX6_init_28 rfl fX6_18 (wf6_2 rfl rfl) k2 (by decide) l2 (fun M3 e3 k3 l3 => ?_)
  refine r_aload0 (pc2 := 32) dX6_init_31 rfl ?_
  refine r_sipush (pc2 := 35) dX6_init_32 rfl (by decide) (by decide) ?_
  refine r_nap (t := 2) (n := 4000) (kc := 2) (ks := 12192) (pc1 := 37) (pc2 := 40) dX6_init_35 rfl (Or.inl ⟨rfl, rfl⟩) rfl (by decide) dX6_init_37 rfl fX6_22 (wf6_3 rfl rfl) k3 (by decide) l3 (fun M4 e4 k4 l4 => ?_)
  refine r_aload0 (pc2 := 41) dX6_init_40 rfl ?_
  refine r_sipush (pc2 := 44) dX6_init_41 rfl (by decide) (by decide) ?_
  refine r_nap (t := 2) (n := 8192) (kc := 1) (ks := 4000) (pc1 := 46) (pc2 := 49) dX6_init_44 rfl (Or.inl ⟨rfl, rfl⟩) rfl (by decide) dX6_init_46 rfl fX6_25 (wf6_4 rfl rfl) k4 (by decide) l4 (fun M5 e5 k5 l5 => ?_)
  refine r_aload0 (pc2 := 50) dX6_init_49 rfl ?_
  refine r_sipush (pc2 := 53) dX6_init_50 rfl (by decide) (by decide) ?_
  refine r_nap (t := 2) (n := 4000) (kc := 0) (ks := 0) (pc1 := 55) (pc2 := 58) dX6_init_53 rfl (Or.inl ⟨rfl, rfl⟩) rfl (by decide) dX6_init_55 rfl fX6_28 (wf6_5 rfl rfl) k5 (by decide) l5 (fun M6 e6 k6 l6 => ?_)
  refine r_ret dX6_init_58 rfl ?_
  refine ⟨rfl, (GWa.nd hf (show M6 = nd 256 M [(3, 4000, 0), (3, 4000, 1), (2, 4000, 2), (2, 4000, 3), (2, 8192, 4), (2, 4000, 5)] by rw [e6, e5, e4, e3, e2, e1]; rfl) (by decide +kernel) (by decide +kernel)).eq rfl (fun j => ?_) (fun j => (z0_0 (by decide)).symm)⟩
  match j with
  | 0 => rfl
  | 1 => rfl
  | 2 => rfl
  | 3 => rfl
  | 4 => rfl
  | 5 => rfl
  | j + 6 => simp only [ndr]; rw [up_ne (by omega), up_ne (by omega), up_ne (by omega), up_ne (by omega), up_ne (by omega), up_ne (by omega)]; rfl
set_option maxHeartbeats 4000000 in
theorem c_X9_init {d : Nat} {M : pM}  (hf : FR M 264 9) : Ct (d + 1) 1 3001 yX9_init [.ref 264] M (fun v M2 => v = none ∧ GW M M2 264 266) := by
  refine ct_in (d := d) kX9_init rfl (by decide) (Nat.le_of_ble_eq_true rfl) (by decide) ?_
  show Go (Ct d) _ yX9_init cX9_init none 1 3001 0 [some (.ref 264)] [] M
  have kk0 := hf.2.1
  have l0 : 264 < M.1.1 := by rw [hf.1]; omega
  refine r_aload0 (pc2 := 1) dX9_init_0 rfl ?_
  refine go_oini dX9_init_1 oX9_3 (by decide) ?_
  refine r_aload0 (pc2 := 5) dX9_init_4 rfl ?_
  refine r_sipush (pc2 := 8) dX9_init_5 rfl (by decide) (by decide) ?_
  refine r_nap (t := 2) (n := 3001) (kc := 0) (ks := 0) (pc1 := 10) (pc2 := 13) dX9_init_8 rfl (Or.inl ⟨rfl, rfl⟩) rfl (by decide) dX9_init_10 rfl fX9_11 (wf9_0 rfl rfl) kk0 (by decide) l0 (fun M1 e1 k1 l1 => ?_)
  refine r_ret dX9_init_13 rfl ?_
  refine ⟨rfl, (GWa.nd hf (show M1 = nd 264 M [(2, 3001, 0)] by rw [e1]; rfl) (by decide +kernel) (by decide +kernel)).eq rfl (fun j => ?_) (fun j => (z0_0 (by decide)).symm)⟩
  match j with
  | 0 => rfl
  | j + 1 => simp only [ndr]; rw [up_ne (by omega)]; rfl
set_option maxHeartbeats 4000000 in
theorem c_X10_init {d : Nat} {M : pM}  (hf : FR M 266 10) : Ct (d + 1) 3 3025 yX10_init [.ref 266] M (fun v M2 => v = none ∧ GW M M2 266 270) := by
  refine ct_in (d := d) kX10_init rfl (by decide) (Nat.le_of_ble_eq_true rfl) (by decide) ?_
  show Go (Ct d) _ yX10_init cX10_init none 3 3025 0 [some (.ref 266)] [] M
  have kk0 := hf.2.1
  have l0 : 266 < M.1.1 := by rw [hf.1]; omega
  refine r_aload0 (pc2 := 1) dX10_init_0 rfl ?_
  refine go_oini dX10_init_1 oX10_3 (by decide) ?_
  refine r_aload0 (pc2 := 5) dX10_init_4 rfl ?_
  refine r_bipush (pc2 := 7) dX10_init_5 rfl (by decide) (by decide) ?_
  refine r_nap (t := 2) (n := 12) (kc := 2) (ks := 3013) (pc1 := 9) (pc2 := 12) dX10_init_7 rfl (Or.inl ⟨rfl, rfl⟩) rfl (by decide) dX10_init_9 rfl fX10_11 (wf10_0 rfl rfl) kk0 (by decide) l0 (fun M1 e1 k1 l1 => ?_)
  refine r_aload0 (pc2 := 13) dX10_init_12 rfl ?_
  refine r_bipush (pc2 := 15) dX10_init_13 rfl (by decide) (by decide) ?_
  refine r_nap (t := 2) (n := 12) (kc := 1) (ks := 3001) (pc1 := 17) (pc2 := 20) dX10_init_15 rfl (Or.inl ⟨rfl, rfl⟩) rfl (by decide) dX10_init_17 rfl fX10_15 (wf10_1 rfl rfl) k1 (by decide) l1 (fun M2 e2 k2 l2 => ?_)
  refine r_aload0 (pc2 := 21) dX10_init_20 rfl ?_
  refine r_sipush (pc2 := 24) dX10_init_21 rfl (by decide) (by decide) ?_
  refine r_nap (t := 2) (n := 3001) (kc := 0) (ks := 0) (pc1 := 26) (pc2 := 29) dX10_init_24 rfl (Or.inl ⟨rfl, rfl⟩) rfl (by decide) dX10_init_26 rfl fX10_18 (wf10_2 rfl rfl) k2 (by decide) l2 (fun M3 e3 k3 l3 => ?_)
  refine r_ret dX10_init_29 rfl ?_
  refine ⟨rfl, (GWa.nd hf (show M3 = nd 266 M [(2, 12, 0), (2, 12, 1), (2, 3001, 2)] by rw [e3, e2, e1]; rfl) (by decide +kernel) (by decide +kernel)).eq rfl (fun j => ?_) (fun j => (z0_0 (by decide)).symm)⟩
  match j with
  | 0 => rfl
  | 1 => rfl
  | 2 => rfl
  | j + 3 => simp only [ndr]; rw [up_ne (by omega), up_ne (by omega), up_ne (by omega)]; rfl
theorem z0_263 {j : Nat} : z0 263 j = if j = 0 then -1 else 0 := by
  unfold z0
  simp [show bO 263 = 10 by decide]
theorem z0_270 {j : Nat} : z0 270 j = if j = 8 then -1 else 0 := by
  unfold z0
  simp [show bO 270 = 10 by decide]
set_option maxHeartbeats 4000000 in
theorem c_X5_init {d : Nat} {M : pM}  (hf : FR M 263 5) : Ct (d + 1) 0 0 yX5_init [.ref 263] M (fun v M2 => v = none ∧ GW M M2 263 264) := by
  refine ct_in (d := d) kX5_init rfl (by decide) (Nat.le_of_ble_eq_true rfl) (by decide) ?_
  show Go (Ct d) _ yX5_init cX5_init none 0 0 0 [some (.ref 263)] [] M
  have kk0 := hf.2.1
  have l0 : 263 < M.1.1 := by rw [hf.1]; omega
  refine r_aload0 (pc2 := 1) dX5_init_0 rfl ?_
  refine go_oini dX5_init_1 oX5_3 (by decide) ?_
  refine r_aload0 (pc2 := 5) dX5_init_4 rfl ?_
  refine r_iconst (pc2 := 6) dX5_init_5 rfl ?_
  refine r_putI (z := -1) (pc2 := 9) dX5_init_6 rfl fX5_9 (w5_0 _) kk0 (by decide) ?_
  refine r_ret dX5_init_9 rfl ?_
  refine ⟨rfl, (GWa.I (k := 0) (z := -1) (GWa.nd (l := []) hf rfl (by decide) (by decide))).eq rfl (fun j => rfl) (fun j => ?_)⟩
  rw [z0_263]
  rfl
set_option maxHeartbeats 4000000 in
theorem c_X7_init {d : Nat} {M : pM}  (hf : FR M 270 7) : Ct (d + 1) 6 188 yX7_init [.ref 270] M (fun v M2 => v = none ∧ GW M M2 270 277) := by
  refine ct_in (d := d) kX7_init rfl (by decide) (Nat.le_of_ble_eq_true rfl) (by decide) ?_
  show Go (Ct d) _ yX7_init cX7_init none 6 188 0 [some (.ref 270)] [] M
  have kk0 := hf.2.1
  have l0 : 270 < M.1.1 := by rw [hf.1]; omega
  refine r_aload0 (pc2 := 1) dX7_init_0 rfl ?_
  refine go_oini dX7_init_1 oX7_3 (by decide) ?_
  refine r_aload0 (pc2 := 5) dX7_init_4 rfl ?_
  refine r_bipush (pc2 := 7) dX7_init_5 rfl (by decide) (by decide) ?_
  refine r_nap (t := 2) (n := 60) (kc := 5) (ks := 128) (pc1 := 9) (pc2 := 12) dX7_init_7 rfl (Or.inl ⟨rfl, rfl⟩) rfl (by decide) dX7_init_9 rfl fX7_11 (wf7_0 rfl rfl) kk0 (by decide) l0 (fun M1 e1 k1 l1 => ?_)
  refine r_aload0 (pc2 := 13) dX7_init_12 rfl ?_
  refine r_bipush (pc2 := 15) dX7_init_13 rfl (by decide) (by decide) ?_
  refine r_nap (t := 2) (n := 60) (kc := 4) (ks := 68) (pc1 := 17) (pc2 := 20) dX7_init_15 rfl (Or.inl ⟨rfl, rfl⟩) rfl (by decide) dX7_init_17 rfl fX7_15 (wf7_1 rfl rfl) k1 (by decide) l1 (fun M2 e2 k2 l2 => ?_)
  refine r_aload0 (pc2 := 21) dX7_init_20 rfl ?_
  refine r_bipush (pc2 := 23) dX7_init_21 rfl (by decide) (by decide) ?_
  refine r_nap (t := 2) (n := 17) (kc := 3) (ks := 51) (pc1 := 25) (pc2 := 28) dX7_init_23 rfl (Or.inl ⟨rfl, rfl⟩) rfl (by decide) dX7_init_25 rfl fX7_18 (wf7_2 rfl rfl) k2 (by decide) l2 (fun M3 e3 k3 l3 => ?_)
  refine r_aload0 (pc2 := 29) dX7_init_28 rfl ?_
  refine r_bipush (pc2 := 31) dX7_init_29 rfl (by decide) (by decide) ?_
  refine r_nap (t := 3) (n := 17) (kc := 2) (ks := 34) (pc1 := 33) (pc2 := 36) dX7_init_31 rfl (Or.inr (Or.inl ⟨rfl, rfl⟩)) rfl (by decide) dX7_init_33 rfl fX7_21 (wf7_3 rfl rfl) k3 (by decide) l3 (fun M4 e4 k4 l4 => ?_)
  refine r_aload0 (pc2 := 37) dX7_init_36 rfl ?_
  refine r_bipush (pc2 := 39) dX7_init_37 rfl (by decide) (by decide) ?_
  refine r_nap (t := 3) (n := 17) (kc := 1) (ks := 17) (pc1 := 41) (pc2 := 44) dX7_init_39 rfl (Or.inr (Or.inl ⟨rfl, rfl⟩)) rfl (by decide) dX7_init_41 rfl fX7_25 (wf7_4 rfl rfl) k4 (by decide) l4 (fun M5 e5 k5 l5 => ?_)
  refine r_aload0 (pc2 := 45) dX7_init_44 rfl ?_
  refine r_bipush (pc2 := 47) dX7_init_45 rfl (by decide) (by decide) ?_
  refine r_nap (t := 2) (n := 17) (kc := 0) (ks := 0) (pc1 := 49) (pc2 := 52) dX7_init_47 rfl (Or.inl ⟨rfl, rfl⟩) rfl (by decide) dX7_init_49 rfl fX7_28 (wf7_5 rfl rfl) k5 (by decide) l5 (fun M6 e6 k6 l6 => ?_)
  refine r_aload0 (pc2 := 53) dX7_init_52 rfl ?_
  refine r_iconst (pc2 := 54) dX7_init_53 rfl ?_
  refine r_putI (z := -1) (pc2 := 57) dX7_init_54 rfl fX7_31 (w7_8 _) k6 (by decide) ?_
  refine r_ret dX7_init_57 rfl ?_
  refine ⟨rfl, (GWa.I (k := 8) (z := -1) (GWa.nd hf (show M6 = nd 270 M [(2, 60, 0), (2, 60, 1), (2, 17, 2), (3, 17, 3), (3, 17, 4), (2, 17, 5)] by rw [e6, e5, e4, e3, e2, e1]; rfl) (by decide +kernel) (by decide +kernel))).eq rfl (fun j => ?_) (fun j => ?_)⟩
  · match j with
    | 0 => rfl
    | 1 => rfl
    | 2 => rfl
    | 3 => rfl
    | 4 => rfl
    | 5 => rfl
    | j + 6 => simp only [ndr]; rw [up_ne (by omega), up_ne (by omega), up_ne (by omega), up_ne (by omega), up_ne (by omega), up_ne (by omega)]; rfl
  · rw [z0_270]
    rfl
set_option maxHeartbeats 4000000 in
theorem c_X4_init {d : Nat} {M : pM}  (hf : FR M 9 4) : Ct (d + 1) 9 815 yX4_init [.ref 9, .ref 3] M (fun v M2 => v = none ∧ GW M M2 9 19) := by
  refine ct_in (d := d) kX4_init rfl (by decide) (Nat.le_of_ble_eq_true rfl) (by decide) ?_
  show Go (Ct d) _ yX4_init cX4_init none 9 815 0 [some (.ref 9), some (.ref 3)] [] M
  have kk0 := hf.2.1
  have l0 : 9 < M.1.1 := by rw [hf.1]; omega
  refine r_aload0 (pc2 := 1) dX4_init_0 rfl ?_
  refine go_oini dX4_init_1 oX4_3 (by decide) ?_
  refine r_aload0 (pc2 := 5) dX4_init_4 rfl ?_
  refine r_bipush (pc2 := 7) dX4_init_5 rfl (by decide) (by decide) ?_
  refine r_nap (t := 2) (n := 125) (kc := 8) (ks := 690) (pc1 := 9) (pc2 := 12) dX4_init_7 rfl (Or.inl ⟨rfl, rfl⟩) rfl (by decide) dX4_init_9 rfl fX4_11 (wf4_1 rfl rfl) kk0 (by decide) l0 (fun M1 e1 k1 l1 => ?_)
  refine r_aload0 (pc2 := 13) dX4_init_12 rfl ?_
  refine r_bipush (pc2 := 15) dX4_init_13 rfl (by decide) (by decide) ?_
  refine r_nap (t := 2) (n := 125) (kc := 7) (ks := 565) (pc1 := 17) (pc2 := 20) dX4_init_15 rfl (Or.inl ⟨rfl, rfl⟩) rfl (by decide) dX4_init_17 rfl fX4_15 (wf4_2 rfl rfl) k1 (by decide) l1 (fun M2 e2 k2 l2 => ?_)
  refine r_aload0 (pc2 := 21) dX4_init_20 rfl ?_
  refine r_bipush (pc2 := 23) dX4_init_21 rfl (by decide) (by decide) ?_
  refine r_nap (t := 2) (n := 125) (kc := 6) (ks := 440) (pc1 := 25) (pc2 := 28) dX4_init_23 rfl (Or.inl ⟨rfl, rfl⟩) rfl (by decide) dX4_init_25 rfl fX4_18 (wf4_3 rfl rfl) k2 (by decide) l2 (fun M3 e3 k3 l3 => ?_)
  refine r_aload0 (pc2 := 29) dX4_init_28 rfl ?_
  refine r_bipush (pc2 := 31) dX4_init_29 rfl (by decide) (by decide) ?_
  refine r_nap (t := 2) (n := 125) (kc := 5) (ks := 315) (pc1 := 33) (pc2 := 36) dX4_init_31 rfl (Or.inl ⟨rfl, rfl⟩) rfl (by decide) dX4_init_33 rfl fX4_21 (wf4_4 rfl rfl) k3 (by decide) l3 (fun M4 e4 k4 l4 => ?_)
  refine r_aload0 (pc2 := 37) dX4_init_36 rfl ?_
  refine r_bipush (pc2 := 39) dX4_init_37 rfl (by decide) (by decide) ?_
  refine r_nap (t := 2) (n := 125) (kc := 4) (ks := 190) (pc1 := 41) (pc2 := 44) dX4_init_39 rfl (Or.inl ⟨rfl, rfl⟩) rfl (by decide) dX4_init_41 rfl fX4_24 (wf4_5 rfl rfl) k4 (by decide) l4 (fun M5 e5 k5 l5 => ?_)
  refine r_aload0 (pc2 := 45) dX4_init_44 rfl ?_
  refine r_bipush (pc2 := 47) dX4_init_45 rfl (by decide) (by decide) ?_
  refine r_nap (t := 2) (n := 125) (kc := 3) (ks := 65) (pc1 := 49) (pc2 := 52) dX4_init_47 rfl (Or.inl ⟨rfl, rfl⟩) rfl (by decide) dX4_init_49 rfl fX4_27 (wf4_6 rfl rfl) k5 (by decide) l5 (fun M6 e6 k6 l6 => ?_)
  refine r_aload0 (pc2 := 53) dX4_init_52 rfl ?_
  refine r_bipush (pc2 := 55) dX4_init_53 rfl (by decide) (by decide) ?_
  refine r_nap (t := 3) (n := 30) (kc := 2) (ks := 35) (pc1 := 57) (pc2 := 60) dX4_init_55 rfl (Or.inr (Or.inl ⟨rfl, rfl⟩)) rfl (by decide) dX4_init_57 rfl fX4_30 (wf4_7 rfl rfl) k6 (by decide) l6 (fun M7 e7 k7 l7 => ?_)
  refine r_aload0 (pc2 := 61) dX4_init_60 rfl ?_
  refine r_bipush (pc2 := 63) dX4_init_61 rfl (by decide) (by decide) ?_
  refine r_nap (t := 2) (n := 30) (kc := 1) (ks := 5) (pc1 := 65) (pc2 := 68) dX4_init_63 rfl (Or.inl ⟨rfl, rfl⟩) rfl (by decide) dX4_init_65 rfl fX4_34 (wf4_8 rfl rfl) k7 (by decide) l7 (fun M8 e8 k8 l8 => ?_)
  refine r_aload0 (pc2 := 69) dX4_init_68 rfl ?_
  refine r_iconst (pc2 := 70) dX4_init_69 rfl ?_
  refine r_nap (t := 2) (n := 5) (kc := 0) (ks := 0) (pc1 := 72) (pc2 := 75) dX4_init_70 rfl (Or.inl ⟨rfl, rfl⟩) rfl (by decide) dX4_init_72 rfl fX4_37 (wf4_9 rfl rfl) k8 (by decide) l8 (fun M9 e9 k9 l9 => ?_)
  refine r_aload0 (pc2 := 76) dX4_init_75 rfl ?_
  refine r_aload1 (pc2 := 77) dX4_init_76 rfl ?_
  refine r_putR (b := 3) (pc2 := 80) dX4_init_77 rfl fX4_40 (wf4_0 rfl rfl) k9 (by decide) ?_
  refine r_ret dX4_init_80 rfl ?_
  refine ⟨rfl, (GWa.R (k := 0) (b := some 3) (GWa.nd hf (show M9 = nd 9 M [(2, 125, 1), (2, 125, 2), (2, 125, 3), (2, 125, 4), (2, 125, 5), (2, 125, 6), (3, 30, 7), (2, 30, 8), (2, 5, 9)] by rw [e9, e8, e7, e6, e5, e4, e3, e2, e1]; rfl) (by decide +kernel) (by decide +kernel))).eq rfl (fun j => ?_) (fun j => (z0_0 (by decide)).symm)⟩
  match j with
  | 0 => rfl
  | 1 => rfl
  | 2 => rfl
  | 3 => rfl
  | 4 => rfl
  | 5 => rfl
  | 6 => rfl
  | 7 => rfl
  | 8 => rfl
  | 9 => rfl
  | j + 10 => simp only [ndr]; rw [up_ne (by omega), up_ne (by omega), up_ne (by omega), up_ne (by omega), up_ne (by omega), up_ne (by omega), up_ne (by omega), up_ne (by omega), up_ne (by omega), up_ne (by omega)]; rfl
set_option maxHeartbeats 4000000 in
theorem c_X2_init {d : Nat} {M : pM}  (hf : FR M 29 2) : Ct (d + 1) 10 1560 yX2_init [.ref 29, .ref 9, .ref 19] M (fun v M2 => v = none ∧ GW M M2 29 40) := by
  refine ct_in (d := d) kX2_init rfl (by decide) (Nat.le_of_ble_eq_true rfl) (by decide) ?_
  show Go (Ct d) _ yX2_init cX2_init none 10 1560 0 [some (.ref 29), some (.ref 9), some (.ref 19)] [] M
  have kk0 := hf.2.1
  have l0 : 29 < M.1.1 := by rw [hf.1]; omega
  refine r_aload0 (pc2 := 1) dX2_init_0 rfl ?_
  refine go_oini dX2_init_1 oX2_5 (by decide) ?_
  refine r_aload0 (pc2 := 5) dX2_init_4 rfl ?_
  refine r_sipush (pc2 := 8) dX2_init_5 rfl (by decide) (by decide) ?_
  refine r_nap (t := 2) (n := 156) (kc := 9) (ks := 1404) (pc1 := 10) (pc2 := 13) dX2_init_8 rfl (Or.inl ⟨rfl, rfl⟩) rfl (by decide) dX2_init_10 rfl fX2_11 (wf2_2 rfl rfl) kk0 (by decide) l0 (fun M1 e1 k1 l1 => ?_)
  refine r_aload0 (pc2 := 14) dX2_init_13 rfl ?_
  refine r_sipush (pc2 := 17) dX2_init_14 rfl (by decide) (by decide) ?_
  refine r_nap (t := 2) (n := 156) (kc := 8) (ks := 1248) (pc1 := 19) (pc2 := 22) dX2_init_17 rfl (Or.inl ⟨rfl, rfl⟩) rfl (by decide) dX2_init_19 rfl fX2_15 (wf2_3 rfl rfl) k1 (by decide) l1 (fun M2 e2 k2 l2 => ?_)
  refine r_aload0 (pc2 := 23) dX2_init_22 rfl ?_
  refine r_sipush (pc2 := 26) dX2_init_23 rfl (by decide) (by decide) ?_
  refine r_nap (t := 2) (n := 156) (kc := 7) (ks := 1092) (pc1 := 28) (pc2 := 31) dX2_init_26 rfl (Or.inl ⟨rfl, rfl⟩) rfl (by decide) dX2_init_28 rfl fX2_18 (wf2_4 rfl rfl) k2 (by decide) l2 (fun M3 e3 k3 l3 => ?_)
  refine r_aload0 (pc2 := 32) dX2_init_31 rfl ?_
  refine r_sipush (pc2 := 35) dX2_init_32 rfl (by decide) (by decide) ?_
  refine r_nap (t := 2) (n := 156) (kc := 6) (ks := 936) (pc1 := 37) (pc2 := 40) dX2_init_35 rfl (Or.inl ⟨rfl, rfl⟩) rfl (by decide) dX2_init_37 rfl fX2_21 (wf2_5 rfl rfl) k3 (by decide) l3 (fun M4 e4 k4 l4 => ?_)
  refine r_aload0 (pc2 := 41) dX2_init_40 rfl ?_
  refine r_sipush (pc2 := 44) dX2_init_41 rfl (by decide) (by decide) ?_
  refine r_nap (t := 2) (n := 156) (kc := 5) (ks := 780) (pc1 := 46) (pc2 := 49) dX2_init_44 rfl (Or.inl ⟨rfl, rfl⟩) rfl (by decide) dX2_init_46 rfl fX2_24 (wf2_6 rfl rfl) k4 (by decide) l4 (fun M5 e5 k5 l5 => ?_)
  refine r_aload0 (pc2 := 50) dX2_init_49 rfl ?_
  refine r_sipush (pc2 := 53) dX2_init_50 rfl (by decide) (by decide) ?_
  refine r_nap (t := 2) (n := 156) (kc := 4) (ks := 624) (pc1 := 55) (pc2 := 58) dX2_init_53 rfl (Or.inl ⟨rfl, rfl⟩) rfl (by decide) dX2_init_55 rfl fX2_27 (wf2_7 rfl rfl) k5 (by decide) l5 (fun M6 e6 k6 l6 => ?_)
  refine r_aload0 (pc2 := 59) dX2_init_58 rfl ?_
  refine r_sipush (pc2 := 62) dX2_init_59 rfl (by decide) (by decide) ?_
  refine r_nap (t := 2) (n := 156) (kc := 3) (ks := 468) (pc1 := 64) (pc2 := 67) dX2_init_62 rfl (Or.inl ⟨rfl, rfl⟩) rfl (by decide) dX2_init_64 rfl fX2_30 (wf2_8 rfl rfl) k6 (by decide) l6 (fun M7 e7 k7 l7 => ?_)
  refine r_aload0 (pc2 := 68) dX2_init_67 rfl ?_
  refine r_sipush (pc2 := 71) dX2_init_68 rfl (by decide) (by decide) ?_
  refine r_nap (t := 2) (n := 156) (kc := 2) (ks := 312) (pc1 := 73) (pc2 := 76) dX2_init_71 rfl (Or.inl ⟨rfl, rfl⟩) rfl (by decide) dX2_init_73 rfl fX2_33 (wf2_9 rfl rfl) k7 (by decide) l7 (fun M8 e8 k8 l8 => ?_)
  refine r_aload0 (pc2 := 77) dX2_init_76 rfl ?_
  refine r_sipush (pc2 := 80) dX2_init_77 rfl (by decide) (by decide) ?_
  refine r_nap (t := 5) (n := 156) (kc := 1) (ks := 156) (pc1 := 82) (pc2 := 85) dX2_init_80 rfl (Or.inr (Or.inr (Or.inr ⟨rfl, rfl⟩))) rfl (by decide) dX2_init_82 rfl fX2_36 (wf2_10 rfl rfl) k8 (by decide) l8 (fun M9 e9 k9 l9 => ?_)
  refine r_aload0 (pc2 := 86) dX2_init_85 rfl ?_
  refine r_sipush (pc2 := 89) dX2_init_86 rfl (by decide) (by decide) ?_
  refine r_nap (t := 2) (n := 156) (kc := 0) (ks := 0) (pc1 := 91) (pc2 := 94) dX2_init_89 rfl (Or.inl ⟨rfl, rfl⟩) rfl (by decide) dX2_init_91 rfl fX2_40 (wf2_11 rfl rfl) k9 (by decide) l9 (fun M10 e10 k10 l10 => ?_)
  refine r_aload0 (pc2 := 95) dX2_init_94 rfl ?_
  refine r_aload1 (pc2 := 96) dX2_init_95 rfl ?_
  refine r_putR (b := 9) (pc2 := 99) dX2_init_96 rfl fX2_43 (wf2_0 rfl rfl) k10 (by decide) ?_
  refine r_aload0 (pc2 := 100) dX2_init_99 rfl ?_
  refine r_aload2 (pc2 := 101) dX2_init_100 rfl ?_
  refine r_putR (b := 19) (pc2 := 104) dX2_init_101 rfl fX2_47 (wf2_1 rfl rfl) k10 (by decide) ?_
  refine r_ret dX2_init_104 rfl ?_
  refine ⟨rfl, (GWa.R (k := 1) (b := some 19) (GWa.R (k := 0) (b := some 9) (GWa.nd hf (show M10 = nd 29 M [(2, 156, 2), (2, 156, 3), (2, 156, 4), (2, 156, 5), (2, 156, 6), (2, 156, 7), (2, 156, 8), (2, 156, 9), (5, 156, 10), (2, 156, 11)] by rw [e10, e9, e8, e7, e6, e5, e4, e3, e2, e1]; rfl) (by decide +kernel) (by decide +kernel)))).eq rfl (fun j => ?_) (fun j => (z0_0 (by decide)).symm)⟩
  match j with
  | 0 => rfl
  | 1 => rfl
  | 2 => rfl
  | 3 => rfl
  | 4 => rfl
  | 5 => rfl
  | 6 => rfl
  | 7 => rfl
  | 8 => rfl
  | 9 => rfl
  | 10 => rfl
  | 11 => rfl
  | j + 12 => simp only [ndr]; rw [up_ne (by omega), up_ne (by omega), up_ne (by omega), up_ne (by omega), up_ne (by omega), up_ne (by omega), up_ne (by omega), up_ne (by omega), up_ne (by omega), up_ne (by omega), up_ne (by omega), up_ne (by omega)]; rfl
